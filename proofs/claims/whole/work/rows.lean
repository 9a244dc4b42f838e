section
-- ===== PART A: goes FIRST, ahead of the names: the tables' words, and 'selects' of the private methods out of them =====
/-- a private method of a class that the tables say can be made, by its rows of tables_1 -/
def lw_okq (q : MethodName × Nat) : Prop := (q.1.cls ≠ "java/lang/invoke/MethodHandle" ∧ q.1.cls ≠ "java/lang/invoke/VarHandle") ∧ Cond.instantiable q.1.cls q.2 ∈ tables_1 ∧ Cond.privateMethod q.1 ∈ tables_1 ∧ Cond.instanceMethod q.1 ∈ tables_1
theorem lw_p0 : lw_okq (⟨"BranchRelaxer", "freshLayout", "()LBranchRelaxer$Layout;"⟩, 11) := ⟨⟨by decide +kernel, by decide +kernel⟩, List.mem_of_getElem? (i := 29) (by decide +kernel), List.mem_of_getElem? (i := 277) (by decide +kernel), List.mem_of_getElem? (i := 278) (by decide +kernel)⟩
theorem lw_p1 : lw_okq (⟨"BranchRelaxer$Links", "readItem", "(I)V"⟩, 9) := ⟨⟨by decide +kernel, by decide +kernel⟩, List.mem_of_getElem? (i := 99) (by decide +kernel), List.mem_of_getElem? (i := 289) (by decide +kernel), List.mem_of_getElem? (i := 290) (by decide +kernel)⟩
theorem lw_p2 : lw_okq (⟨"BranchRelaxer$Links", "readLoad", "(II)V"⟩, 9) := ⟨⟨by decide +kernel, by decide +kernel⟩, List.mem_of_getElem? (i := 99) (by decide +kernel), List.mem_of_getElem? (i := 301) (by decide +kernel), List.mem_of_getElem? (i := 302) (by decide +kernel)⟩
theorem lw_p3 : lw_okq (⟨"java/lang/Throwable", "fillInStackTrace", "(I)Ljava/lang/Throwable;"⟩, 6) := ⟨⟨by decide +kernel, by decide +kernel⟩, List.mem_of_getElem? (i := 492) (by decide +kernel), List.mem_of_getElem? (i := 490) (by decide +kernel), List.mem_of_getElem? (i := 491) (by decide +kernel)⟩
theorem lw_p4 : lw_okq (⟨"BranchRelaxer$ItemText", "matchedBy", "(I)I"⟩, 5) := ⟨⟨by decide +kernel, by decide +kernel⟩, List.mem_of_getElem? (i := 76) (by decide +kernel), List.mem_of_getElem? (i := 582) (by decide +kernel), List.mem_of_getElem? (i := 583) (by decide +kernel)⟩
theorem lw_p5 : lw_okq (⟨"BranchRelaxer$ItemText", "numberFrom", "(I)I"⟩, 5) := ⟨⟨by decide +kernel, by decide +kernel⟩, List.mem_of_getElem? (i := 76) (by decide +kernel), List.mem_of_getElem? (i := 655) (by decide +kernel), List.mem_of_getElem? (i := 656) (by decide +kernel)⟩
theorem lw_p6 : lw_okq (⟨"BranchRelaxer", "requireItem", "(I)V"⟩, 11) := ⟨⟨by decide +kernel, by decide +kernel⟩, List.mem_of_getElem? (i := 29) (by decide +kernel), List.mem_of_getElem? (i := 743) (by decide +kernel), List.mem_of_getElem? (i := 744) (by decide +kernel)⟩
theorem lw_p7 : lw_okq (⟨"BranchRelaxer", "requireTransfer", "(I)V"⟩, 11) := ⟨⟨by decide +kernel, by decide +kernel⟩, List.mem_of_getElem? (i := 29) (by decide +kernel), List.mem_of_getElem? (i := 792) (by decide +kernel), List.mem_of_getElem? (i := 793) (by decide +kernel)⟩
theorem lw_p8 : lw_okq (⟨"BranchRelaxer", "requireForm", "(I)V"⟩, 11) := ⟨⟨by decide +kernel, by decide +kernel⟩, List.mem_of_getElem? (i := 29) (by decide +kernel), List.mem_of_getElem? (i := 798) (by decide +kernel), List.mem_of_getElem? (i := 799) (by decide +kernel)⟩
theorem lw_p9 : lw_okq (⟨"BranchRelaxer$AddressSet", "startWithZero", "()V"⟩, 5) := ⟨⟨by decide +kernel, by decide +kernel⟩, List.mem_of_getElem? (i := 196) (by decide +kernel), List.mem_of_getElem? (i := 852) (by decide +kernel), List.mem_of_getElem? (i := 853) (by decide +kernel)⟩
theorem lw_p10 : lw_okq (⟨"BranchRelaxer$AddressSet", "passItem", "(I)V"⟩, 5) := ⟨⟨by decide +kernel, by decide +kernel⟩, List.mem_of_getElem? (i := 196) (by decide +kernel), List.mem_of_getElem? (i := 857) (by decide +kernel), List.mem_of_getElem? (i := 858) (by decide +kernel)⟩
theorem lw_p11 : lw_okq (⟨"BranchRelaxer$AddressSet", "hold", "(I)V"⟩, 5) := ⟨⟨by decide +kernel, by decide +kernel⟩, List.mem_of_getElem? (i := 196) (by decide +kernel), List.mem_of_getElem? (i := 863) (by decide +kernel), List.mem_of_getElem? (i := 864) (by decide +kernel)⟩
theorem lw_p12 : lw_okq (⟨"BranchRelaxer", "requireTarget", "(I)V"⟩, 11) := ⟨⟨by decide +kernel, by decide +kernel⟩, List.mem_of_getElem? (i := 29) (by decide +kernel), List.mem_of_getElem? (i := 888) (by decide +kernel), List.mem_of_getElem? (i := 889) (by decide +kernel)⟩
theorem lw_p13 : lw_okq (⟨"BranchRelaxer", "requireAllDefined", "()V"⟩, 11) := ⟨⟨by decide +kernel, by decide +kernel⟩, List.mem_of_getElem? (i := 29) (by decide +kernel), List.mem_of_getElem? (i := 920) (by decide +kernel), List.mem_of_getElem? (i := 921) (by decide +kernel)⟩
theorem lw_p14 : lw_okq (⟨"BranchRelaxer$Transfers", "growMisfits", "()Z"⟩, 3) := ⟨⟨by decide +kernel, by decide +kernel⟩, List.mem_of_getElem? (i := 149) (by decide +kernel), List.mem_of_getElem? (i := 950) (by decide +kernel), List.mem_of_getElem? (i := 951) (by decide +kernel)⟩
theorem lw_p15 : lw_okq (⟨"BranchRelaxer$Transfers", "shrinkIfAllFit", "(I)Z"⟩, 3) := ⟨⟨by decide +kernel, by decide +kernel⟩, List.mem_of_getElem? (i := 149) (by decide +kernel), List.mem_of_getElem? (i := 967) (by decide +kernel), List.mem_of_getElem? (i := 968) (by decide +kernel)⟩
def lw_privs_1 : List (MethodName × Nat) := [(⟨"BranchRelaxer", "freshLayout", "()LBranchRelaxer$Layout;"⟩, 11), (⟨"BranchRelaxer$Links", "readItem", "(I)V"⟩, 9), (⟨"BranchRelaxer$Links", "readLoad", "(II)V"⟩, 9), (⟨"java/lang/Throwable", "fillInStackTrace", "(I)Ljava/lang/Throwable;"⟩, 6), (⟨"BranchRelaxer$ItemText", "matchedBy", "(I)I"⟩, 5), (⟨"BranchRelaxer$ItemText", "numberFrom", "(I)I"⟩, 5), (⟨"BranchRelaxer", "requireItem", "(I)V"⟩, 11), (⟨"BranchRelaxer", "requireTransfer", "(I)V"⟩, 11), (⟨"BranchRelaxer", "requireForm", "(I)V"⟩, 11), (⟨"BranchRelaxer$AddressSet", "startWithZero", "()V"⟩, 5), (⟨"BranchRelaxer$AddressSet", "passItem", "(I)V"⟩, 5), (⟨"BranchRelaxer$AddressSet", "hold", "(I)V"⟩, 5), (⟨"BranchRelaxer", "requireTarget", "(I)V"⟩, 11), (⟨"BranchRelaxer", "requireAllDefined", "()V"⟩, 11), (⟨"BranchRelaxer$Transfers", "growMisfits", "()Z"⟩, 3), (⟨"BranchRelaxer$Transfers", "shrinkIfAllFit", "(I)Z"⟩, 3)]
theorem lw_r1 : ∀ q ∈ lw_privs_1, lw_okq q := List.forall_mem_cons.mpr ⟨lw_p0, List.forall_mem_cons.mpr ⟨lw_p1, List.forall_mem_cons.mpr ⟨lw_p2, List.forall_mem_cons.mpr ⟨lw_p3, List.forall_mem_cons.mpr ⟨lw_p4, List.forall_mem_cons.mpr ⟨lw_p5, List.forall_mem_cons.mpr ⟨lw_p6, List.forall_mem_cons.mpr ⟨lw_p7, List.forall_mem_cons.mpr ⟨lw_p8, List.forall_mem_cons.mpr ⟨lw_p9, List.forall_mem_cons.mpr ⟨lw_p10, List.forall_mem_cons.mpr ⟨lw_p11, List.forall_mem_cons.mpr ⟨lw_p12, List.forall_mem_cons.mpr ⟨lw_p13, List.forall_mem_cons.mpr ⟨lw_p14, List.forall_mem_cons.mpr ⟨lw_p15, fun _ h => absurd h List.not_mem_nil⟩⟩⟩⟩⟩⟩⟩⟩⟩⟩⟩⟩⟩⟩⟩⟩
theorem lw_p16 : lw_okq (⟨"BranchRelaxer", "requireSearchable", "()V"⟩, 11) := ⟨⟨by decide +kernel, by decide +kernel⟩, List.mem_of_getElem? (i := 29) (by decide +kernel), List.mem_of_getElem? (i := 980) (by decide +kernel), List.mem_of_getElem? (i := 981) (by decide +kernel)⟩
theorem lw_p17 : lw_okq (⟨"BranchRelaxer$FormSearch", "tryFrom", "(III)V"⟩, 8) := ⟨⟨by decide +kernel, by decide +kernel⟩, List.mem_of_getElem? (i := 165) (by decide +kernel), List.mem_of_getElem? (i := 1005) (by decide +kernel), List.mem_of_getElem? (i := 1006) (by decide +kernel)⟩
theorem lw_p18 : lw_okq (⟨"BranchRelaxer$FormSearch", "placeUpToTransfer", "(II)I"⟩, 8) := ⟨⟨by decide +kernel, by decide +kernel⟩, List.mem_of_getElem? (i := 165) (by decide +kernel), List.mem_of_getElem? (i := 1009) (by decide +kernel), List.mem_of_getElem? (i := 1010) (by decide +kernel)⟩
theorem lw_p19 : lw_okq (⟨"BranchRelaxer$FormSearch", "allFitForward", "(I)Z"⟩, 8) := ⟨⟨by decide +kernel, by decide +kernel⟩, List.mem_of_getElem? (i := 165) (by decide +kernel), List.mem_of_getElem? (i := 1016) (by decide +kernel), List.mem_of_getElem? (i := 1017) (by decide +kernel)⟩
theorem lw_p20 : lw_okq (⟨"BranchRelaxer$FormSearch", "keep", "(I)V"⟩, 8) := ⟨⟨by decide +kernel, by decide +kernel⟩, List.mem_of_getElem? (i := 165) (by decide +kernel), List.mem_of_getElem? (i := 1023) (by decide +kernel), List.mem_of_getElem? (i := 1024) (by decide +kernel)⟩
theorem lw_p21 : lw_okq (⟨"BranchRelaxer$FormSearch", "tryForms", "(II)V"⟩, 8) := ⟨⟨by decide +kernel, by decide +kernel⟩, List.mem_of_getElem? (i := 165) (by decide +kernel), List.mem_of_getElem? (i := 1032) (by decide +kernel), List.mem_of_getElem? (i := 1033) (by decide +kernel)⟩
theorem lw_p22 : lw_okq (⟨"BranchRelaxer$FormSearch", "fitsBackward", "(III)Z"⟩, 8) := ⟨⟨by decide +kernel, by decide +kernel⟩, List.mem_of_getElem? (i := 165) (by decide +kernel), List.mem_of_getElem? (i := 1036) (by decide +kernel), List.mem_of_getElem? (i := 1037) (by decide +kernel)⟩
theorem lw_p23 : lw_okq (⟨"BranchRelaxer", "requirePool", "(I)V"⟩, 11) := ⟨⟨by decide +kernel, by decide +kernel⟩, List.mem_of_getElem? (i := 29) (by decide +kernel), List.mem_of_getElem? (i := 1104) (by decide +kernel), List.mem_of_getElem? (i := 1105) (by decide +kernel)⟩
theorem lw_p24 : lw_okq (⟨"BranchRelaxer", "requireLiteral", "(II)V"⟩, 11) := ⟨⟨by decide +kernel, by decide +kernel⟩, List.mem_of_getElem? (i := 29) (by decide +kernel), List.mem_of_getElem? (i := 1117) (by decide +kernel), List.mem_of_getElem? (i := 1118) (by decide +kernel)⟩
theorem lw_p25 : lw_okq (⟨"BranchRelaxer", "requireLoad", "(I)V"⟩, 11) := ⟨⟨by decide +kernel, by decide +kernel⟩, List.mem_of_getElem? (i := 29) (by decide +kernel), List.mem_of_getElem? (i := 1141) (by decide +kernel), List.mem_of_getElem? (i := 1142) (by decide +kernel)⟩
theorem lw_p26 : lw_okq (⟨"BranchRelaxerModel", "done", "(I)I"⟩, 21) := ⟨⟨by decide +kernel, by decide +kernel⟩, List.mem_of_getElem? (i := 1190) (by decide +kernel), List.mem_of_getElem? (i := 1268) (by decide +kernel), List.mem_of_getElem? (i := 1269) (by decide +kernel)⟩
theorem lw_p27 : lw_okq (⟨"BranchRelaxerModel", "fails", "(I)I"⟩, 21) := ⟨⟨by decide +kernel, by decide +kernel⟩, List.mem_of_getElem? (i := 1190) (by decide +kernel), List.mem_of_getElem? (i := 1283) (by decide +kernel), List.mem_of_getElem? (i := 1284) (by decide +kernel)⟩
theorem lw_p28 : lw_okq (⟨"BranchRelaxerModel", "goes", "(I)I"⟩, 21) := ⟨⟨by decide +kernel, by decide +kernel⟩, List.mem_of_getElem? (i := 1190) (by decide +kernel), List.mem_of_getElem? (i := 1291) (by decide +kernel), List.mem_of_getElem? (i := 1292) (by decide +kernel)⟩
theorem lw_p29 : lw_okq (⟨"BranchRelaxerModel", "nameSize", "(I)I"⟩, 21) := ⟨⟨by decide +kernel, by decide +kernel⟩, List.mem_of_getElem? (i := 1190) (by decide +kernel), List.mem_of_getElem? (i := 1295) (by decide +kernel), List.mem_of_getElem? (i := 1296) (by decide +kernel)⟩
theorem lw_p30 : lw_okq (⟨"BranchRelaxerModel", "isFigure", "(I)Z"⟩, 21) := ⟨⟨by decide +kernel, by decide +kernel⟩, List.mem_of_getElem? (i := 1190) (by decide +kernel), List.mem_of_getElem? (i := 1299) (by decide +kernel), List.mem_of_getElem? (i := 1300) (by decide +kernel)⟩
theorem lw_p31 : lw_okq (⟨"BranchRelaxerModel", "defines", "(I)I"⟩, 21) := ⟨⟨by decide +kernel, by decide +kernel⟩, List.mem_of_getElem? (i := 1190) (by decide +kernel), List.mem_of_getElem? (i := 1306) (by decide +kernel), List.mem_of_getElem? (i := 1307) (by decide +kernel)⟩
def lw_privs_2 : List (MethodName × Nat) := [(⟨"BranchRelaxer", "requireSearchable", "()V"⟩, 11), (⟨"BranchRelaxer$FormSearch", "tryFrom", "(III)V"⟩, 8), (⟨"BranchRelaxer$FormSearch", "placeUpToTransfer", "(II)I"⟩, 8), (⟨"BranchRelaxer$FormSearch", "allFitForward", "(I)Z"⟩, 8), (⟨"BranchRelaxer$FormSearch", "keep", "(I)V"⟩, 8), (⟨"BranchRelaxer$FormSearch", "tryForms", "(II)V"⟩, 8), (⟨"BranchRelaxer$FormSearch", "fitsBackward", "(III)Z"⟩, 8), (⟨"BranchRelaxer", "requirePool", "(I)V"⟩, 11), (⟨"BranchRelaxer", "requireLiteral", "(II)V"⟩, 11), (⟨"BranchRelaxer", "requireLoad", "(I)V"⟩, 11), (⟨"BranchRelaxerModel", "done", "(I)I"⟩, 21), (⟨"BranchRelaxerModel", "fails", "(I)I"⟩, 21), (⟨"BranchRelaxerModel", "goes", "(I)I"⟩, 21), (⟨"BranchRelaxerModel", "nameSize", "(I)I"⟩, 21), (⟨"BranchRelaxerModel", "isFigure", "(I)Z"⟩, 21), (⟨"BranchRelaxerModel", "defines", "(I)I"⟩, 21)]
theorem lw_r2 : ∀ q ∈ lw_privs_2, lw_okq q := List.forall_mem_cons.mpr ⟨lw_p16, List.forall_mem_cons.mpr ⟨lw_p17, List.forall_mem_cons.mpr ⟨lw_p18, List.forall_mem_cons.mpr ⟨lw_p19, List.forall_mem_cons.mpr ⟨lw_p20, List.forall_mem_cons.mpr ⟨lw_p21, List.forall_mem_cons.mpr ⟨lw_p22, List.forall_mem_cons.mpr ⟨lw_p23, List.forall_mem_cons.mpr ⟨lw_p24, List.forall_mem_cons.mpr ⟨lw_p25, List.forall_mem_cons.mpr ⟨lw_p26, List.forall_mem_cons.mpr ⟨lw_p27, List.forall_mem_cons.mpr ⟨lw_p28, List.forall_mem_cons.mpr ⟨lw_p29, List.forall_mem_cons.mpr ⟨lw_p30, List.forall_mem_cons.mpr ⟨lw_p31, fun _ h => absurd h List.not_mem_nil⟩⟩⟩⟩⟩⟩⟩⟩⟩⟩⟩⟩⟩⟩⟩⟩
theorem lw_p32 : lw_okq (⟨"BranchRelaxerModel", "kind", "(I)I"⟩, 21) := ⟨⟨by decide +kernel, by decide +kernel⟩, List.mem_of_getElem? (i := 1190) (by decide +kernel), List.mem_of_getElem? (i := 1310) (by decide +kernel), List.mem_of_getElem? (i := 1311) (by decide +kernel)⟩
theorem lw_p33 : lw_okq (⟨"BranchRelaxerModel", "operand", "(I)I"⟩, 21) := ⟨⟨by decide +kernel, by decide +kernel⟩, List.mem_of_getElem? (i := 1190) (by decide +kernel), List.mem_of_getElem? (i := 1314) (by decide +kernel), List.mem_of_getElem? (i := 1315) (by decide +kernel)⟩
theorem lw_p34 : lw_okq (⟨"BranchRelaxerModel", "remembers", "()V"⟩, 21) := ⟨⟨by decide +kernel, by decide +kernel⟩, List.mem_of_getElem? (i := 1190) (by decide +kernel), List.mem_of_getElem? (i := 1318) (by decide +kernel), List.mem_of_getElem? (i := 1319) (by decide +kernel)⟩
theorem lw_p35 : lw_okq (⟨"BranchRelaxerModel", "opens", "(I)V"⟩, 21) := ⟨⟨by decide +kernel, by decide +kernel⟩, List.mem_of_getElem? (i := 1190) (by decide +kernel), List.mem_of_getElem? (i := 1322) (by decide +kernel), List.mem_of_getElem? (i := 1323) (by decide +kernel)⟩
theorem lw_p36 : lw_okq (⟨"BranchRelaxerModel", "form", "(I)I"⟩, 21) := ⟨⟨by decide +kernel, by decide +kernel⟩, List.mem_of_getElem? (i := 1190) (by decide +kernel), List.mem_of_getElem? (i := 1326) (by decide +kernel), List.mem_of_getElem? (i := 1327) (by decide +kernel)⟩
theorem lw_p37 : lw_okq (⟨"BranchRelaxerModel", "forms", "(II)V"⟩, 21) := ⟨⟨by decide +kernel, by decide +kernel⟩, List.mem_of_getElem? (i := 1190) (by decide +kernel), List.mem_of_getElem? (i := 1330) (by decide +kernel), List.mem_of_getElem? (i := 1331) (by decide +kernel)⟩
theorem lw_p38 : lw_okq (⟨"BranchRelaxerModel", "puts", "(IIII)V"⟩, 21) := ⟨⟨by decide +kernel, by decide +kernel⟩, List.mem_of_getElem? (i := 1190) (by decide +kernel), List.mem_of_getElem? (i := 1334) (by decide +kernel), List.mem_of_getElem? (i := 1335) (by decide +kernel)⟩
theorem lw_p39 : lw_okq (⟨"BranchRelaxerModel", "isItem", "(I)Z"⟩, 21) := ⟨⟨by decide +kernel, by decide +kernel⟩, List.mem_of_getElem? (i := 1190) (by decide +kernel), List.mem_of_getElem? (i := 1346) (by decide +kernel), List.mem_of_getElem? (i := 1347) (by decide +kernel)⟩
theorem lw_p40 : lw_okq (⟨"BranchRelaxerModel", "closes", "(I)V"⟩, 21) := ⟨⟨by decide +kernel, by decide +kernel⟩, List.mem_of_getElem? (i := 1190) (by decide +kernel), List.mem_of_getElem? (i := 1350) (by decide +kernel), List.mem_of_getElem? (i := 1351) (by decide +kernel)⟩
theorem lw_p41 : lw_okq (⟨"BranchRelaxerModel", "lays", "()V"⟩, 21) := ⟨⟨by decide +kernel, by decide +kernel⟩, List.mem_of_getElem? (i := 1190) (by decide +kernel), List.mem_of_getElem? (i := 1362) (by decide +kernel), List.mem_of_getElem? (i := 1363) (by decide +kernel)⟩
theorem lw_p42 : lw_okq (⟨"BranchRelaxerModel", "sizeAt", "(III)I"⟩, 21) := ⟨⟨by decide +kernel, by decide +kernel⟩, List.mem_of_getElem? (i := 1190) (by decide +kernel), List.mem_of_getElem? (i := 1366) (by decide +kernel), List.mem_of_getElem? (i := 1367) (by decide +kernel)⟩
theorem lw_p43 : lw_okq (⟨"BranchRelaxerModel", "poolSize", "(II)I"⟩, 21) := ⟨⟨by decide +kernel, by decide +kernel⟩, List.mem_of_getElem? (i := 1190) (by decide +kernel), List.mem_of_getElem? (i := 1376) (by decide +kernel), List.mem_of_getElem? (i := 1377) (by decide +kernel)⟩
theorem lw_p44 : lw_okq (⟨"BranchRelaxerModel", "tellValues", "(I)V"⟩, 21) := ⟨⟨by decide +kernel, by decide +kernel⟩, List.mem_of_getElem? (i := 1190) (by decide +kernel), List.mem_of_getElem? (i := 1380) (by decide +kernel), List.mem_of_getElem? (i := 1381) (by decide +kernel)⟩
theorem lw_p45 : lw_okq (⟨"BranchRelaxerModel", "valueAt", "(I)I"⟩, 21) := ⟨⟨by decide +kernel, by decide +kernel⟩, List.mem_of_getElem? (i := 1190) (by decide +kernel), List.mem_of_getElem? (i := 1384) (by decide +kernel), List.mem_of_getElem? (i := 1385) (by decide +kernel)⟩
theorem lw_p46 : lw_okq (⟨"BranchRelaxerModel", "isTransfer", "(I)Z"⟩, 21) := ⟨⟨by decide +kernel, by decide +kernel⟩, List.mem_of_getElem? (i := 1190) (by decide +kernel), List.mem_of_getElem? (i := 1396) (by decide +kernel), List.mem_of_getElem? (i := 1397) (by decide +kernel)⟩
theorem lw_p47 : lw_okq (⟨"BranchRelaxerModel", "total", "()I"⟩, 21) := ⟨⟨by decide +kernel, by decide +kernel⟩, List.mem_of_getElem? (i := 1190) (by decide +kernel), List.mem_of_getElem? (i := 1404) (by decide +kernel), List.mem_of_getElem? (i := 1405) (by decide +kernel)⟩
def lw_privs_3 : List (MethodName × Nat) := [(⟨"BranchRelaxerModel", "kind", "(I)I"⟩, 21), (⟨"BranchRelaxerModel", "operand", "(I)I"⟩, 21), (⟨"BranchRelaxerModel", "remembers", "()V"⟩, 21), (⟨"BranchRelaxerModel", "opens", "(I)V"⟩, 21), (⟨"BranchRelaxerModel", "form", "(I)I"⟩, 21), (⟨"BranchRelaxerModel", "forms", "(II)V"⟩, 21), (⟨"BranchRelaxerModel", "puts", "(IIII)V"⟩, 21), (⟨"BranchRelaxerModel", "isItem", "(I)Z"⟩, 21), (⟨"BranchRelaxerModel", "closes", "(I)V"⟩, 21), (⟨"BranchRelaxerModel", "lays", "()V"⟩, 21), (⟨"BranchRelaxerModel", "sizeAt", "(III)I"⟩, 21), (⟨"BranchRelaxerModel", "poolSize", "(II)I"⟩, 21), (⟨"BranchRelaxerModel", "tellValues", "(I)V"⟩, 21), (⟨"BranchRelaxerModel", "valueAt", "(I)I"⟩, 21), (⟨"BranchRelaxerModel", "isTransfer", "(I)Z"⟩, 21), (⟨"BranchRelaxerModel", "total", "()I"⟩, 21)]
theorem lw_r3 : ∀ q ∈ lw_privs_3, lw_okq q := List.forall_mem_cons.mpr ⟨lw_p32, List.forall_mem_cons.mpr ⟨lw_p33, List.forall_mem_cons.mpr ⟨lw_p34, List.forall_mem_cons.mpr ⟨lw_p35, List.forall_mem_cons.mpr ⟨lw_p36, List.forall_mem_cons.mpr ⟨lw_p37, List.forall_mem_cons.mpr ⟨lw_p38, List.forall_mem_cons.mpr ⟨lw_p39, List.forall_mem_cons.mpr ⟨lw_p40, List.forall_mem_cons.mpr ⟨lw_p41, List.forall_mem_cons.mpr ⟨lw_p42, List.forall_mem_cons.mpr ⟨lw_p43, List.forall_mem_cons.mpr ⟨lw_p44, List.forall_mem_cons.mpr ⟨lw_p45, List.forall_mem_cons.mpr ⟨lw_p46, List.forall_mem_cons.mpr ⟨lw_p47, fun _ h => absurd h List.not_mem_nil⟩⟩⟩⟩⟩⟩⟩⟩⟩⟩⟩⟩⟩⟩⟩⟩
theorem lw_p48 : lw_okq (⟨"BranchRelaxerModel", "goesOn", "(I)V"⟩, 21) := ⟨⟨by decide +kernel, by decide +kernel⟩, List.mem_of_getElem? (i := 1190) (by decide +kernel), List.mem_of_getElem? (i := 1428) (by decide +kernel), List.mem_of_getElem? (i := 1429) (by decide +kernel)⟩
theorem lw_p49 : lw_okq (⟨"BranchRelaxerModel", "transfers", "()I"⟩, 21) := ⟨⟨by decide +kernel, by decide +kernel⟩, List.mem_of_getElem? (i := 1190) (by decide +kernel), List.mem_of_getElem? (i := 1436) (by decide +kernel), List.mem_of_getElem? (i := 1437) (by decide +kernel)⟩
theorem lw_p50 : lw_okq (⟨"BranchRelaxerModel", "undefined", "()I"⟩, 21) := ⟨⟨by decide +kernel, by decide +kernel⟩, List.mem_of_getElem? (i := 1190) (by decide +kernel), List.mem_of_getElem? (i := 1448) (by decide +kernel), List.mem_of_getElem? (i := 1449) (by decide +kernel)⟩
theorem lw_p51 : lw_okq (⟨"BranchRelaxerModel", "lacks", "(I)I"⟩, 21) := ⟨⟨by decide +kernel, by decide +kernel⟩, List.mem_of_getElem? (i := 1190) (by decide +kernel), List.mem_of_getElem? (i := 1456) (by decide +kernel), List.mem_of_getElem? (i := 1457) (by decide +kernel)⟩
theorem lw_p52 : lw_okq (⟨"BranchRelaxerModel", "off", "(I)I"⟩, 21) := ⟨⟨by decide +kernel, by decide +kernel⟩, List.mem_of_getElem? (i := 1190) (by decide +kernel), List.mem_of_getElem? (i := 1460) (by decide +kernel), List.mem_of_getElem? (i := 1461) (by decide +kernel)⟩
theorem lw_p53 : lw_okq (⟨"BranchRelaxerModel", "isFit", "(I)Z"⟩, 21) := ⟨⟨by decide +kernel, by decide +kernel⟩, List.mem_of_getElem? (i := 1190) (by decide +kernel), List.mem_of_getElem? (i := 1468) (by decide +kernel), List.mem_of_getElem? (i := 1469) (by decide +kernel)⟩
theorem lw_p54 : lw_okq (⟨"BranchRelaxerModel", "misfitMany", "()I"⟩, 21) := ⟨⟨by decide +kernel, by decide +kernel⟩, List.mem_of_getElem? (i := 1190) (by decide +kernel), List.mem_of_getElem? (i := 1479) (by decide +kernel), List.mem_of_getElem? (i := 1480) (by decide +kernel)⟩
theorem lw_p55 : lw_okq (⟨"BranchRelaxerModel", "round", "()Z"⟩, 21) := ⟨⟨by decide +kernel, by decide +kernel⟩, List.mem_of_getElem? (i := 1190) (by decide +kernel), List.mem_of_getElem? (i := 1491) (by decide +kernel), List.mem_of_getElem? (i := 1492) (by decide +kernel)⟩
theorem lw_p56 : lw_okq (⟨"BranchRelaxerModel", "pass", "()I"⟩, 21) := ⟨⟨by decide +kernel, by decide +kernel⟩, List.mem_of_getElem? (i := 1190) (by decide +kernel), List.mem_of_getElem? (i := 1499) (by decide +kernel), List.mem_of_getElem? (i := 1500) (by decide +kernel)⟩
theorem lw_p57 : lw_okq (⟨"BranchRelaxerModel", "lacksChoices", "()I"⟩, 21) := ⟨⟨by decide +kernel, by decide +kernel⟩, List.mem_of_getElem? (i := 1190) (by decide +kernel), List.mem_of_getElem? (i := 1507) (by decide +kernel), List.mem_of_getElem? (i := 1508) (by decide +kernel)⟩
theorem lw_p58 : lw_okq (⟨"BranchRelaxerModel", "tellChoices", "()V"⟩, 21) := ⟨⟨by decide +kernel, by decide +kernel⟩, List.mem_of_getElem? (i := 1190) (by decide +kernel), List.mem_of_getElem? (i := 1511) (by decide +kernel), List.mem_of_getElem? (i := 1512) (by decide +kernel)⟩
theorem lw_p59 : lw_okq (⟨"BranchRelaxerModel", "chooses", "(II)V"⟩, 21) := ⟨⟨by decide +kernel, by decide +kernel⟩, List.mem_of_getElem? (i := 1190) (by decide +kernel), List.mem_of_getElem? (i := 1515) (by decide +kernel), List.mem_of_getElem? (i := 1516) (by decide +kernel)⟩
theorem lw_p60 : lw_okq (⟨"BranchRelaxerModel", "pools", "()I"⟩, 21) := ⟨⟨by decide +kernel, by decide +kernel⟩, List.mem_of_getElem? (i := 1190) (by decide +kernel), List.mem_of_getElem? (i := 1535) (by decide +kernel), List.mem_of_getElem? (i := 1536) (by decide +kernel)⟩
theorem lw_p61 : lw_okq (⟨"BranchRelaxerModel", "placeOf", "(I)I"⟩, 21) := ⟨⟨by decide +kernel, by decide +kernel⟩, List.mem_of_getElem? (i := 1190) (by decide +kernel), List.mem_of_getElem? (i := 1543) (by decide +kernel), List.mem_of_getElem? (i := 1544) (by decide +kernel)⟩
theorem lw_p62 : lw_okq (⟨"BranchRelaxerModel", "lacksLoad", "(I)I"⟩, 21) := ⟨⟨by decide +kernel, by decide +kernel⟩, List.mem_of_getElem? (i := 1190) (by decide +kernel), List.mem_of_getElem? (i := 1559) (by decide +kernel), List.mem_of_getElem? (i := 1560) (by decide +kernel)⟩
theorem lw_p63 : lw_okq (⟨"BranchRelaxerModel", "far", "(II)I"⟩, 21) := ⟨⟨by decide +kernel, by decide +kernel⟩, List.mem_of_getElem? (i := 1190) (by decide +kernel), List.mem_of_getElem? (i := 1567) (by decide +kernel), List.mem_of_getElem? (i := 1568) (by decide +kernel)⟩
def lw_privs_4 : List (MethodName × Nat) := [(⟨"BranchRelaxerModel", "goesOn", "(I)V"⟩, 21), (⟨"BranchRelaxerModel", "transfers", "()I"⟩, 21), (⟨"BranchRelaxerModel", "undefined", "()I"⟩, 21), (⟨"BranchRelaxerModel", "lacks", "(I)I"⟩, 21), (⟨"BranchRelaxerModel", "off", "(I)I"⟩, 21), (⟨"BranchRelaxerModel", "isFit", "(I)Z"⟩, 21), (⟨"BranchRelaxerModel", "misfitMany", "()I"⟩, 21), (⟨"BranchRelaxerModel", "round", "()Z"⟩, 21), (⟨"BranchRelaxerModel", "pass", "()I"⟩, 21), (⟨"BranchRelaxerModel", "lacksChoices", "()I"⟩, 21), (⟨"BranchRelaxerModel", "tellChoices", "()V"⟩, 21), (⟨"BranchRelaxerModel", "chooses", "(II)V"⟩, 21), (⟨"BranchRelaxerModel", "pools", "()I"⟩, 21), (⟨"BranchRelaxerModel", "placeOf", "(I)I"⟩, 21), (⟨"BranchRelaxerModel", "lacksLoad", "(I)I"⟩, 21), (⟨"BranchRelaxerModel", "far", "(II)I"⟩, 21)]
theorem lw_r4 : ∀ q ∈ lw_privs_4, lw_okq q := List.forall_mem_cons.mpr ⟨lw_p48, List.forall_mem_cons.mpr ⟨lw_p49, List.forall_mem_cons.mpr ⟨lw_p50, List.forall_mem_cons.mpr ⟨lw_p51, List.forall_mem_cons.mpr ⟨lw_p52, List.forall_mem_cons.mpr ⟨lw_p53, List.forall_mem_cons.mpr ⟨lw_p54, List.forall_mem_cons.mpr ⟨lw_p55, List.forall_mem_cons.mpr ⟨lw_p56, List.forall_mem_cons.mpr ⟨lw_p57, List.forall_mem_cons.mpr ⟨lw_p58, List.forall_mem_cons.mpr ⟨lw_p59, List.forall_mem_cons.mpr ⟨lw_p60, List.forall_mem_cons.mpr ⟨lw_p61, List.forall_mem_cons.mpr ⟨lw_p62, List.forall_mem_cons.mpr ⟨lw_p63, fun _ h => absurd h List.not_mem_nil⟩⟩⟩⟩⟩⟩⟩⟩⟩⟩⟩⟩⟩⟩⟩⟩
theorem lw_p64 : lw_okq (⟨"BranchRelaxerModel", "poolPlace", "(I)I"⟩, 21) := ⟨⟨by decide +kernel, by decide +kernel⟩, List.mem_of_getElem? (i := 1190) (by decide +kernel), List.mem_of_getElem? (i := 1571) (by decide +kernel), List.mem_of_getElem? (i := 1572) (by decide +kernel)⟩
def lw_privs_5 : List (MethodName × Nat) := [(⟨"BranchRelaxerModel", "poolPlace", "(I)I"⟩, 21)]
theorem lw_r5 : ∀ q ∈ lw_privs_5, lw_okq q := List.forall_mem_cons.mpr ⟨lw_p64, fun _ h => absurd h List.not_mem_nil⟩
def lw_privs : List (MethodName × Nat) := lw_privs_1 ++ (lw_privs_2 ++ (lw_privs_3 ++ (lw_privs_4 ++ (lw_privs_5))))
def lw_tbl : List Cond := k2_sels lw_privs ++ tables_1
theorem lw_privs_ok : ∀ q ∈ lw_privs, lw_okq q := by
  show ∀ q ∈ lw_privs_1 ++ (lw_privs_2 ++ (lw_privs_3 ++ (lw_privs_4 ++ (lw_privs_5)))), lw_okq q
  exact List.forall_mem_append.mpr ⟨lw_r1, List.forall_mem_append.mpr ⟨lw_r2, List.forall_mem_append.mpr ⟨lw_r3, List.forall_mem_append.mpr ⟨lw_r4, lw_r5⟩⟩⟩⟩
/-- the streams that the claim lets the run draw from -/
abbrev lw_cs : List Choice := [Jvm.Choice.named "NaN.bits"]
theorem lw_bits : nanBits ∈ lw_cs := by first | decide | exact List.mem_cons_self | simp [lw_cs, nanBits]
end
section
/-! ===== BEGIN words of one list among another's, by their places ===== -/
theorem goodIn_r {big : List Cond} (ws : List Cond) (ps : List Nat) (hp : ws = ps.filterMap (fun i => big[i]?)) (h : ws.all goodWord = true) : GoodIn big ws := by
  intro w hw
  have h1 := List.all_eq_true.mp h w hw
  rw [hp] at hw
  obtain ⟨i, -, hi⟩ := List.mem_filterMap.mp hw
  have hm : w ∈ big := by first | exact List.mem_of_getElem? hi | exact List.getElem?_mem hi
  exact ⟨hm, good_of_word h1⟩
theorem goodIn_app {big a b : List Cond} (ha : GoodIn big a) (hb : GoodIn big b) : GoodIn big (a ++ b) := fun w h => (List.mem_append.mp h).elim (ha w) (hb w)
theorem goodIn_ca {big a b : List Cond} {c : Cond} (ha : GoodIn big (c :: a)) (hb : GoodIn big b) : GoodIn big (c :: (a ++ b)) := fun w h => (List.mem_cons.mp h).elim (fun e => ha w (List.mem_cons.mpr (Or.inl e))) (fun h => (List.mem_append.mp h).elim (fun h => ha w (List.mem_cons.mpr (Or.inr h))) (hb w))
theorem goodIn_sub {big ws : List Cond} (hm : ∀ w ∈ ws, w ∈ big) (h : ws.all goodWord = true) : GoodIn big ws := fun w hw => ⟨hm w hw, good_of_word (List.all_eq_true.mp h w hw)⟩
/-! ===== END ===== -/

/-! ===== BEGIN exceptions that leave a method, and their catching by the caller (launches without stack traces) ===== -/
section VXA
/-! The laws vx_back, vx_callV, vx_callS, vx_callSW, vx_throw0, vx_throwS follow proofs of the library, with one case more: JvmDerived/Free/Laws.lean (Back.of_free), Shelf42/LK1.lean (callV, callS), Shelf/KitTraced.lean (throwNew0V, throwNewS). -/
/-- where a method has thrown q: the class by its name, the cell, what was written, the world -/
def vx_T (XC : String → State → State → Prop) (st : State) (q : Addr) (t : State) (mc ms : Nat) (free : Addr → Prop) : Prop :=
  ∃ (E : String) (ce : Cell) (L : List Loc), XC E st t ∧ t.heap[q]? = some ce ∧ ce.vm = .none ∧ st.vm.findClass E = some ce.cls ∧ st.WarmedH t.vm ∧ st.sameButNew ({ t with vm := st.vm } : State) L mc ms ∧ ∀ z ∈ L, free z.base
def vx_Q (Qc : Array Value → State → Outcome → State → Prop) (XC : String → State → State → Prop) (mc ms : Nat) (free : Addr → Prop) : Array Value → State → Outcome → State → Prop := fun a st o t =>
  (Qc a st o t ∧ ∃ L, FrameEnd st o t L mc ms ∧ ∀ q ∈ L, free q.base) ∨ ∃ q, o = .threw q ∧ vx_T XC st q t mc ms free
/-- a callee that returns or throws -/
def vx_Met (l : Launch) (y : MethodName) (ws : List Cond) (rm : Room) (Pc : Array Value → State → Prop) (Qc : Array Value → State → Outcome → State → Prop) (XC : String → State → State → Prop) (mc ms : Nat) (free : Addr → Prop) : Prop :=
  MetFree l y (headSpec ws rm) Pc (fun _ _ _ _ _ => True) (vx_Q Qc XC mc ms free)
def vx_Post (XC : String → State → State → Prop) (mc ms : Nat) (free : Addr → Prop) : Pt → Array Value → Addr → Pt → Prop := fun A a q B =>
  ∃ (g : JFrame) (mk : MethodId) (t : State) (L : List Loc) (E : String) (ce : Cell), B.U.heap = t.heap ∧ B.U.vm = t.vm ∧ XC E (A.U.calling g mk a) t ∧ t.heap[q]? = some ce ∧ ce.vm = .none ∧ A.U.vm.findClass E = some ce.cls ∧ B.locs = A.locs ++ L ∧ (∀ z ∈ L, free z.base) ∧ B.cells = A.cells + mc ∧ B.slots = A.slots + ms
def vx_Back (l : Launch) (R : Room) (p : Program) (e : Env) (below : List Frame) (s : State) (sargs : Array Value) (y : MethodName) (len W9 : Nat)
    (Pre : Pt → Array Value → Prop) (Post : Pt → Array Value → Option Value → Pt → Prop) (PostX : Pt → Array Value → Addr → Pt → Prop) : Prop :=
  ∀ (m : MethodId) (meth : Method) (c : Code) (A : Pt) (g : JFrame) (ig : Instr) (mk : MethodId) (a : Array Value),
    Stand p l e R s m sargs below meth c A.U A.locs A.cells A.slots → g.method = m → g.locals.size = c.maxLocals → decode c.code g.pc = .ok (ig, len) →
    2 * g.monitorRoom + (g.stack.map fun v => v.category).sum ≤ W9 → A.U.methodNamed? y = some mk → Pre A a →
    (∃ (v : Option Value) (B : Pt), Stand p l e R s m sargs below meth c B.U B.locs B.cells B.slots ∧ Post A a v B ∧
      Steps p.tables e below (doInvoke e (A.U.setTop g) [] mk a).1 (B.U.setTop { g with pc := g.pc + len, stack := v.toList ++ g.stack })) ∨
    (∃ (q : Addr) (B : Pt), Stand p l e R s m sargs below meth c B.U B.locs B.cells B.slots ∧ PostX A a q B ∧
      Steps p.tables e below (doInvoke e (A.U.setTop g) [] mk a).1 ((B.U.setTop g).pushFrame (.throwing q)))
section Payer
variable {l : Launch} {R : Room} {p : Program} {e : Env} {below : List Frame} {s : State} {sargs : Array Value} {y : MethodName} {len W9 : Nat}
theorem vx_back {ws : List Cond} {rm : Room} {Pc : Array Value → State → Prop} {Qc : Array Value → State → Outcome → State → Prop} {XC : String → State → State → Prop} {mc ms : Nat} {free : Addr → Prop} {bytes : ByteArray} {maxL : Nat} {ret : Option FieldType}
    (hM : vx_Met l y ws rm Pc Qc XC mc ms free) (hblind : FrameBlind Pc) (hrc : rm.cells = mc) (hrs : rm.slots = ms)
    (hframes : rm.frames + 1 ≤ R.frames) (hlocals : W9 + (maxL + 11) + rm.locals ≤ R.locals)
    (hws : ∀ w ∈ ws, ∀ a' U, s.WarmedH U.vm → w.before a' U = true) (hcode : Cond.code y bytes maxL ret ∈ ws) (hinit : ∀ a' U, s.WarmedH U.vm → (Cond.initialized y.cls).before a' U = true) :
    vx_Back l R p e below s sargs y len W9 (PreOf R mc ms Pc) (PostOf Qc mc ms free) (vx_Post XC mc ms free) := by
  intro m meth c A g ig mk a X hg hsize hdg hW hn hp
  have h1 : (headSpec ws rm).pre.before a A.U = true := atoms_intro fun w hw => hws w hw _ _ X.warmed
  have h2 : (Cond.code y bytes maxL ret).before a A.U = true := hws _ hcode _ _ X.warmed
  have h3 : (Cond.initialized y.cls).before a A.U = true := hinit _ _ X.warmed
  have h4 : A.cells + (headSpec ws rm).room.cells ≤ R.cells := by rw [show (headSpec ws rm).room.cells = mc from hrc]; exact hp.1
  have h5 : A.slots + (headSpec ws rm).room.slots ≤ R.slots := by rw [show (headSpec ws rm).room.slots = ms from hrs]; exact hp.2.1
  have hPc : Pc a (A.U.calling g mk a) := hblind _ _ _ _ hp.2.2
  obtain ⟨U, Ls, c0, s0⟩ := A
  dsimp only [Pt.U, Pt.locs, Pt.cells, Pt.slots] at h1 h2 h3 h4 h5 X hn hPc ⊢
  obtain ⟨methY, cY, hmY, hcY, -, hlY, -, -, -, -⟩ := Cond.code_spec hn h2
  obtain ⟨kY, hkY, -⟩ := className_of_methodNamed hn
  have hinitY : kY.init = .initialized := Cond.initialized_spec (findClass_of_methodNamed hn) hkY h3
  have h : At U g.method c below := by rw [hg]; exact X.here
  have hlocals9 : W9 + (maxL + 11) + (headSpec ws rm).room.locals ≤ R.locals := hlocals
  have happ : (headSpec ws rm).appliesLoose y e.platform (U.calling g mk a) = true :=
    Spec.appliesLoose_calling (g := g) h hdg hn hkY hinitY
      (X.room_calling (g := g) (R' := (headSpec ws rm).room) hsize hmY hcY hframes (by rw [hlY]; omega) h4 h5) h1
  obtain ⟨mid, hmid⟩ := h.above
  have hfr : (U.setTop g).frames = (.java g :: mid) ++ below := by rw [State.frames_setTop' g h.top, hmid]; rfl
  obtain ⟨o, s₂, hsteps, -, hend, hq⟩ := Steps.callFree hM p X.admits X.cas X.clock (acts := []) hfr happ hPc trivial
  have hq' : vx_Q Qc XC mc ms free a (U.calling g mk a) o s₂ := hq
  rw [State.frames_setTop' g h.top] at hend
  obtain ⟨g₀, hg0⟩ := Option.isSome_iff_exists.mp h.top
  obtain ⟨r, hr⟩ := State.topJava?_eq_some.mp hg0
  have hr' : (({ U with heap := s₂.heap, slotsUsed := s₂.slotsUsed } : State).setVm s₂.vm).frames = .java g₀ :: r := hr
  rcases hq' with ⟨hqc, L, hfe, hL⟩ | ⟨q, rfl, E, ce, L, hx, hce, hcv, hcl, hW₂, hsm, hL⟩
  · obtain ⟨⟨v, rfl⟩, hW₂, e2, q2, q3, q4, q5, q6⟩ := id hfe
    have e3 : s₂ = ({ (U.calling g mk a).setFrames s₂.frames with heap := s₂.heap, slotsUsed := s₂.slotsUsed } : State).setVm s₂.vm := by
      have : s₂ = ({ s₂ with vm := (U.calling g mk a).vm } : State).setVm s₂.vm := rfl
      rw [e2] at this
      exact this
    obtain ⟨c₂, i₂, len₂, hc₂, hd₂, hf₂⟩ := hend
    have hW' : U.WarmedH s₂.vm := hW₂
    have hcc : c₂ = c := by
      have h1 : s₂.code? g.method = U.code? g.method := by
        rw [State.code?_eq, State.code?_eq, hW'.alike.method?]
      exact Option.some.inj (hc₂.symm.trans (h1.trans h.code))
    subst hcc
    have hlen : len₂ = len := by rw [hdg] at hd₂; cases hd₂; rfl
    subst hlen
    have hs₂ : s₂ = (({ U with heap := s₂.heap, slotsUsed := s₂.slotsUsed } : State).setVm s₂.vm).setTop { g with pc := g.pc + len₂, stack := v.toList ++ g.stack } := by
      refine e3.trans ?_
      rw [hf₂, State.calling_eq h.top, State.setFrames_setFrames, State.setTop_of_frames _ hr', hr]
      rfl
    have hsame : U.sameButNew ({ U with heap := s₂.heap, slotsUsed := s₂.slotsUsed } : State) L mc ms := by
      refine ⟨?_, q2, q3, q4, q5, q6⟩
      obtain ⟨t, ht, -⟩ := State.frames_cons hr
      show ({ U with heap := s₂.heap, slotsUsed := s₂.slotsUsed } : State) = { U.setFrames U.frames with heap := s₂.heap, slotsUsed := s₂.slotsUsed }
      rw [State.setFrames_self ht]
    subst hg
    refine Or.inl ⟨v, ⟨(({ U with heap := s₂.heap, slotsUsed := s₂.slotsUsed } : State).setVm s₂.vm), Ls ++ L, c0 + mc, s0 + ms⟩,
      ⟨X.admits, X.cas, X.clock, X.frames, X.room, X.hears, X.method, X.code, (X.here.setHeapUsed s₂.heap s₂.slotsUsed).setVm hW'.alike, X.tail, State.WarmedH.trans X.warmed hW', X.limits, X.bytes, X.same.trans (hsame.setVm s.vm)⟩,
      ⟨g, mk, s₂, L, rfl, rfl, hqc, rfl, hL, rfl, rfl⟩, ?_⟩
    show Steps p.tables e below _ ((({ U with heap := s₂.heap, slotsUsed := s₂.slotsUsed } : State).setVm s₂.vm).setTop { g with pc := g.pc + len₂, stack := v.toList ++ g.stack })
    rw [← hs₂]
    exact hsteps
  · obtain ⟨e2, q2, q3, q4, q5, q6⟩ := id hsm
    have e3 : s₂ = ({ (U.calling g mk a).setFrames s₂.frames with heap := s₂.heap, slotsUsed := s₂.slotsUsed } : State).setVm s₂.vm := by
      have : s₂ = ({ s₂ with vm := (U.calling g mk a).vm } : State).setVm s₂.vm := rfl
      rw [e2] at this
      exact this
    have hf₂ : s₂.frames = .throwing q :: .java g :: U.frames.tail := hend
    have hW' : U.WarmedH s₂.vm := hW₂
    have hs₂ : s₂ = ((({ U with heap := s₂.heap, slotsUsed := s₂.slotsUsed } : State).setVm s₂.vm).setTop g).pushFrame (.throwing q) := by
      refine e3.trans ?_
      rw [hf₂, State.calling_eq h.top, State.setFrames_setFrames, State.pushFrame, State.frames_setTop _ hr', State.setTop_of_frames _ hr', State.setFrames_setFrames, hr]
      rfl
    have hsame : U.sameButNew ({ U with heap := s₂.heap, slotsUsed := s₂.slotsUsed } : State) L mc ms := by
      refine ⟨?_, q2, q3, q4, q5, q6⟩
      obtain ⟨t, ht, -⟩ := State.frames_cons hr
      show ({ U with heap := s₂.heap, slotsUsed := s₂.slotsUsed } : State) = { U.setFrames U.frames with heap := s₂.heap, slotsUsed := s₂.slotsUsed }
      rw [State.setFrames_self ht]
    subst hg
    refine Or.inr ⟨q, ⟨(({ U with heap := s₂.heap, slotsUsed := s₂.slotsUsed } : State).setVm s₂.vm), Ls ++ L, c0 + mc, s0 + ms⟩,
      ⟨X.admits, X.cas, X.clock, X.frames, X.room, X.hears, X.method, X.code, (X.here.setHeapUsed s₂.heap s₂.slotsUsed).setVm hW'.alike, X.tail, State.WarmedH.trans X.warmed hW', X.limits, X.bytes, X.same.trans (hsame.setVm s.vm)⟩,
      ⟨g, mk, s₂, L, E, ce, rfl, rfl, hx, hce, hcv, hcl, rfl, hL, rfl, rfl⟩, ?_⟩
    show Steps p.tables e below _ (((({ U with heap := s₂.heap, slotsUsed := s₂.slotsUsed } : State).setVm s₂.vm).setTop g).pushFrame (.throwing q))
    rw [← hs₂]
    exact hsteps
end Payer
section Calls
variable {p : Program} {l : Launch} {e : Env} {R : Room} {s : State} {m : MethodId} {args : Array Value} {below : List Frame} {meth : Method} {c : Code} {T : State} {locs : List Loc} {cells slots : Nat}
theorem vx_callV (X : Stand p l e R s m args below meth c T locs cells slots) (hexec : p.tables.exec = Jvm.exec) {own C : String} {index : Nat} {y : MethodName} {bytes : ByteArray} {maxL : Nat} {ret : Option FieldType}
    (hown : s.vm.findClass own = some m.cls) (hlink : (Cond.methodLink own index y).before args s = true) (hinst : (Cond.instanceMethod y).before args s = true) (hsel : (Cond.selects C y y).before args s = true)
    (hcode : (Cond.code y bytes maxL ret).before args s = true) (hy : y.cls ≠ "java/lang/invoke/MethodHandle" ∧ y.cls ≠ "java/lang/invoke/VarHandle")
    {W9 : Nat} {Pre : Pt → Array Value → Prop} {Post : Pt → Array Value → Option Value → Pt → Prop} {PostX : Pt → Array Value → Addr → Pt → Prop} (hK : vx_Back l R p e below s args y 3 W9 Pre Post PostX)
    {b : Addr} {cellB : Cell} (hcell : T.heap[b]? = some cellB) (hobj : cellB.vm.isStatics = false) (hcls : s.vm.findClass C = some cellB.cls)
    {g : JFrame} (hg : g.method = m) (hsize : g.locals.size = c.maxLocals) {argsL rest : List Value} (hlen : ∀ sig, parseMethodDescriptor y.desc = some sig → argsL.length = sig.parameters.length)
    (hstack : g.stack = argsL.reverse ++ .ref b :: rest) (hW : 2 * g.monitorRoom + (rest.map fun v => v.category).sum ≤ W9) (hdg : decode c.code g.pc = .ok (.invokevirtual index, 3))
    (hpre : ∀ vm₁, s.WarmedH vm₁ → Pre ⟨T.setVm vm₁, locs, cells, slots⟩ (Value.ref b :: argsL).toArray) :
    (∃ (v : Option Value) (vm₁ : Vm) (B : Pt), s.WarmedH vm₁ ∧ Stand p l e R s m args below meth c B.U B.locs B.cells B.slots ∧ Post ⟨T.setVm vm₁, locs, cells, slots⟩ (Value.ref b :: argsL).toArray v B ∧
      ∀ target, Steps p.tables e below (B.U.setTop { g with pc := g.pc + 3, stack := v.toList ++ rest }) target → Steps p.tables e below (T.setTop g) target) ∨
    (∃ (q : Addr) (vm₁ : Vm) (B : Pt), s.WarmedH vm₁ ∧ Stand p l e R s m args below meth c B.U B.locs B.cells B.slots ∧ PostX ⟨T.setVm vm₁, locs, cells, slots⟩ (Value.ref b :: argsL).toArray q B ∧
      Steps p.tables e below (T.setTop g) ((B.U.setTop { g with stack := rest }).pushFrame (.throwing q))) := by
  obtain ⟨mk, methM, hnamed, hmethM, hstM, habM⟩ := Cond.instanceMethod_spec hinst
  obtain ⟨methM', cM, hmethM', -, -, -, -, -, -, hsigM⟩ := Cond.code_spec hnamed hcode
  cases hmethM.symm.trans hmethM'
  obtain ⟨c2, r2, m2, q1, q2, q3, q4, kP, hkP, hkPi⟩ := Cond.selects_spec hsel
  cases hcls.symm.trans q1
  cases (State.methodFound?_of_named hnamed hy).symm.trans q2
  cases hnamed.symm.trans q3
  have hselP : selectMethod e.platform s.vm cellB.cls mk = .method mk := by rw [Launch.admits_selectMethod X.admits]; exact q4
  obtain ⟨vm₁, X₁, hstep₁⟩ := X.invokevirtual hexec hown hlink hnamed hmethM hstM hkP hkPi hy (a := b) (cell := cellB) hcell
    (fun z h => by rw [h] at hobj; cases hobj) hselP hmethM habM hkP hkPi (g := g) hg (argsL := argsL) (rest := rest) (hlen _ hsigM) hstack hdg
  rcases hK m meth c ⟨T.setVm vm₁, locs, cells, slots⟩ { g with stack := rest } (.invokevirtual index) mk (Value.ref b :: argsL).toArray X₁ hg hsize hdg hW (X₁.named hnamed) (hpre vm₁ X₁.warmed) with ⟨v, B, X', hpost, hsteps⟩ | ⟨q, B, X', hpost, hsteps⟩
  · exact Or.inl ⟨v, vm₁, B, X₁.warmed, X', hpost, fun target h => hstep₁ _ fun acts => by rw [doInvoke_state]; exact hsteps.trans h⟩
  · exact Or.inr ⟨q, vm₁, B, X₁.warmed, X', hpost, hstep₁ _ fun acts => by rw [doInvoke_state]; exact hsteps⟩
theorem vx_callS (X : Stand p l e R s m args below meth c T locs cells slots) (hexec : p.tables.exec = Jvm.exec) {own : String} {index : Nat} {y : MethodName} {bytes : ByteArray} {maxL : Nat} {ret : Option FieldType}
    (hown : s.vm.findClass own = some m.cls) (hlink : (Cond.methodLink own index y).before args s = true) (hstat : (Cond.static y).before args s = true) (hinit : (Cond.initialized y.cls).before args s = true)
    (hcode : (Cond.code y bytes maxL ret).before args s = true) (hy : y.cls ≠ "java/lang/invoke/MethodHandle" ∧ y.cls ≠ "java/lang/invoke/VarHandle")
    {W9 : Nat} {Pre : Pt → Array Value → Prop} {Post : Pt → Array Value → Option Value → Pt → Prop} {PostX : Pt → Array Value → Addr → Pt → Prop} (hK : vx_Back l R p e below s args y 3 W9 Pre Post PostX)
    {g : JFrame} (hg : g.method = m) (hsize : g.locals.size = c.maxLocals) {argsL rest : List Value} (hlen : ∀ sig, parseMethodDescriptor y.desc = some sig → argsL.length = sig.parameters.length)
    (hstack : g.stack = argsL.reverse ++ rest) (hW : 2 * g.monitorRoom + (rest.map fun v => v.category).sum ≤ W9) (hdg : decode c.code g.pc = .ok (.invokestatic index, 3))
    (hpre : ∀ vm₁, s.WarmedH vm₁ → Pre ⟨T.setVm vm₁, locs, cells, slots⟩ argsL.toArray) :
    (∃ (v : Option Value) (vm₁ : Vm) (B : Pt), s.WarmedH vm₁ ∧ Stand p l e R s m args below meth c B.U B.locs B.cells B.slots ∧ Post ⟨T.setVm vm₁, locs, cells, slots⟩ argsL.toArray v B ∧
      ∀ target, Steps p.tables e below (B.U.setTop { g with pc := g.pc + 3, stack := v.toList ++ rest }) target → Steps p.tables e below (T.setTop g) target) ∨
    (∃ (q : Addr) (vm₁ : Vm) (B : Pt), s.WarmedH vm₁ ∧ Stand p l e R s m args below meth c B.U B.locs B.cells B.slots ∧ PostX ⟨T.setVm vm₁, locs, cells, slots⟩ argsL.toArray q B ∧
      Steps p.tables e below (T.setTop g) ((B.U.setTop { g with stack := rest }).pushFrame (.throwing q))) := by
  obtain ⟨mk, hnamed⟩ := Cond.code_named hcode
  obtain ⟨methM, cM, hmethM, -, -, -, -, -, -, hsigM⟩ := Cond.code_spec hnamed hcode
  have hstatic : methM.isStatic = true := Cond.static_spec hnamed hmethM hstat
  obtain ⟨kP, hkP, -⟩ := className_of_methodNamed hnamed
  have hinitP : kP.init = .initialized := Cond.initialized_spec (findClass_of_methodNamed hnamed) hkP hinit
  obtain ⟨vm₁, X₁, hstep₁⟩ := X.invokestatic hexec hown hlink hnamed hmethM hstatic hkP hinitP hy (g := g) hg (argsL := argsL) (rest := rest) (hlen _ hsigM) hstack hdg
  rcases hK m meth c ⟨T.setVm vm₁, locs, cells, slots⟩ { g with stack := rest } (.invokestatic index) mk argsL.toArray X₁ hg hsize hdg hW (X₁.named hnamed) (hpre vm₁ X₁.warmed) with ⟨v, B, X', hpost, hsteps⟩ | ⟨q, B, X', hpost, hsteps⟩
  · exact Or.inl ⟨v, vm₁, B, X₁.warmed, X', hpost, fun target h => hstep₁ _ fun acts => by rw [doInvoke_state]; exact hsteps.trans h⟩
  · exact Or.inr ⟨q, vm₁, B, X₁.warmed, X', hpost, hstep₁ _ fun acts => by rw [doInvoke_state]; exact hsteps⟩
end Calls
theorem vx_cls {s : State} {T : State} {vm₁ : Vm} {E : String} {k : ClassId} (hW : s.WarmedH vm₁) (h : (T.setVm vm₁).vm.findClass E = some k) : s.vm.findClass E = some k := by
  have h1 : vm₁.findClass E = some k := h
  rw [hW.alike.findClass] at h1
  exact h1
/-- the method's frame g, with q thrown over it -/
def vx_W (p : Program) (l : Launch) (e : Env) (R : Room) (s : State) (m : MethodId) (args : Array Value) (below : List Frame) (meth : Method) (c : Code) (H : Heap) (locs : List Loc) (cells slots : Nat) (Q : State → Prop) (g : JFrame) (q : Addr) : Prop :=
  ∀ T : State, T.heap = H → Stand p l e R s m args below meth c T locs cells slots → ∃ t, Steps p.tables e below ((T.setTop g).pushFrame (.throwing q)) t ∧ Q t
def vx_Run (p : Program) (l : Launch) (e : Env) (R : Room) (s : State) (m : MethodId) (args : Array Value) (below : List Frame) (meth : Method) (c : Code) (H : Heap) (locs : List Loc) (cells slots mc ms : Nat) (g : JFrame) (rest : List Value) (Qa : State → Outcome → State → Prop) (XC : String → State → State → Prop) (free : Addr → Prop) : Prop :=
  ∀ T : State, T.heap = H → Stand p l e R s m args below meth c T locs cells slots →
    (∃ (v : Option Value) (st₀ t T' : State) (L : List Loc), st₀.heap = H ∧ Stand p l e R s m args below meth c T' (locs ++ L) (cells + mc) (slots + ms) ∧ (∀ q ∈ L, free q.base) ∧ T'.heap = t.heap ∧ T'.vm = t.vm ∧ Qa st₀ (.returned v) t ∧
      Goes p e below T g T' { g with pc := g.pc + 3, stack := v.toList ++ rest }) ∨
    (∃ (q : Addr) (st₀ t T' : State) (L : List Loc) (E : String) (ce : Cell), st₀.heap = H ∧ Stand p l e R s m args below meth c T' (locs ++ L) (cells + mc) (slots + ms) ∧ (∀ z ∈ L, free z.base) ∧ T'.heap = t.heap ∧ T'.vm = t.vm ∧ XC E st₀ t ∧ t.heap[q]? = some ce ∧ ce.vm = .none ∧ s.vm.findClass E = some ce.cls ∧
      Steps p.tables e below (T.setTop g) ((T'.setTop { g with stack := rest }).pushFrame (.throwing q)))
def vx_X {S : Type} (px : S → Prop) (B : String → S → State → Prop) (A : Nat → Prop) : String → State → State → Prop := fun E st t => ∃ u : S, px u ∧ B E u t ∧ va_F A st t
section Runs
variable {p : Program} {l : Launch} {e : Env} {R : Room} {s : State} {m : MethodId} {args : Array Value} {below : List Frame} {meth : Method} {c : Code} {H : Heap} {locs : List Loc} {cells slots : Nat}
variable {y : MethodName} {bytes cc : ByteArray} {maxL nL mc ms n index : Nat} {ret : Option FieldType} {ws : List Cond} {rm : Room} {Pc : Array Value → State → Prop} {Qc : Array Value → State → Outcome → State → Prop} {XC : String → State → State → Prop} {free : Addr → Prop} {Ts : List Cond} {own C : String} {b : Addr} {As rest : List Value} {g : JFrame}
theorem vx_callBack (cb : CallB R s args own index y bytes maxL ret ws rm mc ms n) (hM : vx_Met l y ws rm Pc Qc XC mc ms free) (hbl : FrameBlind Pc) : vx_Back l R p e below s args y 3 8 (PreOf R mc ms Pc) (PostOf Qc mc ms free) (vx_Post XC mc ms free) := by
  obtain ⟨hrc, hrs, hfr, hlo, hws, hcw, -, hini, -⟩ := cb
  exact vx_back (bytes := bytes) (maxL := maxL) (ret := ret) hM hbl hrc hrs hfr hlo hws hcw (fun a' U hW => word_at hW (Or.inl (by first | rfl | simp [Cond.onTables, Cond.keeps, Cond.steady])) hini)
theorem vx_runV (S : CallFix p m c cc nL s args Ts own) (hM : vx_Met l y ws rm Pc Qc XC mc ms free) (cw : CallW R s args own C index y bytes maxL ret ws rm mc ms n) (hp : PreV s H C b Pc As)
    (hg : g.method = m) (hn : As.length = n) (hsize : g.locals.size = nL) (hstack : g.stack = As.reverse ++ .ref b :: rest) (hW : 2 * g.monitorRoom + (rest.map fun v => v.category).sum ≤ 8) (hdg : decode cc g.pc = .ok (.invokevirtual index, 3)) (hf : cells + mc ≤ R.cells ∧ slots + ms ≤ R.slots) :
    vx_Run p l e R s m args below meth c H locs cells slots mc ms g rest (Qc (Value.ref b :: As).toArray) XC free := by
  have hK : vx_Back l R p e below s args y 3 8 (PreOf R mc ms Pc) (PostOf Qc mc ms free) (vx_Post XC mc ms free) := vx_callBack cw.1 hM hp.1
  obtain ⟨⟨-, -, -, -, -, -, hcode, -, hy, hlen, hl⟩, hin, hse⟩ := cw
  obtain ⟨hx, hb, hml, ho, -⟩ := S
  obtain ⟨-, ⟨cellB, hcB, hoB, hclB⟩, hPc⟩ := hp
  intro T hT X
  rcases vx_callV X hx (C := C) (bytes := bytes) (maxL := maxL) (ret := ret) ho hl hin hse hcode hy hK (by rw [hT]; exact hcB) hoB hclB hg (hsize.trans hml.symm) (argsL := As) (rest := rest) (fun sig h => hn.trans (hlen sig h)) hstack hW (by rw [hb]; exact hdg)
    (fun vm₁ hW₁ => ⟨hf.1, hf.2, hPc (T.setVm vm₁) hT hW₁⟩) with ⟨v, vm₁, ⟨U', l2, c2, s2⟩, hW₁, X', ⟨g', mk, t, L, e1, e2, hq, h1, hL, h2, h3⟩, st⟩ | ⟨q, vm₁, ⟨U', l2, c2, s2⟩, hW₁, X', ⟨g', mk, t, L, E, ce, e1, e2, hq, hce, hcv, hcl, h1, hL, h2, h3⟩, st⟩
  · dsimp only [Pt.U, Pt.locs, Pt.cells, Pt.slots] at X' e1 e2 h1 h2 h3 st
    subst h1; subst h2; subst h3
    exact Or.inl ⟨v, (T.setVm vm₁).calling g' mk (Value.ref b :: As).toArray, t, U', L, hT, X', hL, e1, e2, hq, st⟩
  · dsimp only [Pt.U, Pt.locs, Pt.cells, Pt.slots] at X' e1 e2 h1 h2 h3 st hcl
    subst h1; subst h2; subst h3
    exact Or.inr ⟨q, (T.setVm vm₁).calling g' mk (Value.ref b :: As).toArray, t, U', L, E, ce, hT, X', hL, e1, e2, hq, hce, hcv, vx_cls hW₁ hcl, st⟩
theorem vx_runS (S : CallFix p m c cc nL s args Ts own) (hM : vx_Met l y ws rm Pc Qc XC mc ms free) (cw : CallB R s args own index y bytes maxL ret ws rm mc ms n ∧ (Cond.static y).before args s = true) (hp : PreS s H Pc As)
    (hg : g.method = m) (hn : As.length = n) (hsize : g.locals.size = nL) (hstack : g.stack = As.reverse ++ rest) (hW : 2 * g.monitorRoom + (rest.map fun v => v.category).sum ≤ 8) (hdg : decode cc g.pc = .ok (.invokestatic index, 3)) (hf : cells + mc ≤ R.cells ∧ slots + ms ≤ R.slots) :
    vx_Run p l e R s m args below meth c H locs cells slots mc ms g rest (Qc As.toArray) XC free := by
  have hK : vx_Back l R p e below s args y 3 8 (PreOf R mc ms Pc) (PostOf Qc mc ms free) (vx_Post XC mc ms free) := vx_callBack cw.1 hM hp.1
  obtain ⟨⟨-, -, -, -, -, -, hcode, hini, hy, hlen, hl⟩, hstt⟩ := cw
  obtain ⟨hx, hb, hml, ho, -⟩ := S
  intro T hT X
  rcases vx_callS X hx (bytes := bytes) (maxL := maxL) (ret := ret) ho hl hstt hini hcode hy hK hg (hsize.trans hml.symm) (argsL := As) (rest := rest) (fun sig h => hn.trans (hlen sig h)) hstack hW (by rw [hb]; exact hdg)
    (fun vm₁ hW₁ => ⟨hf.1, hf.2, hp.2 (T.setVm vm₁) hT hW₁⟩) with ⟨v, vm₁, ⟨U', l2, c2, s2⟩, hW₁, X', ⟨g', mk, t, L, e1, e2, hq, h1, hL, h2, h3⟩, st⟩ | ⟨q, vm₁, ⟨U', l2, c2, s2⟩, hW₁, X', ⟨g', mk, t, L, E, ce, e1, e2, hq, hce, hcv, hcl, h1, hL, h2, h3⟩, st⟩
  · dsimp only [Pt.U, Pt.locs, Pt.cells, Pt.slots] at X' e1 e2 h1 h2 h3 st
    subst h1; subst h2; subst h3
    exact Or.inl ⟨v, (T.setVm vm₁).calling g' mk As.toArray, t, U', L, hT, X', hL, e1, e2, hq, st⟩
  · dsimp only [Pt.U, Pt.locs, Pt.cells, Pt.slots] at X' e1 e2 h1 h2 h3 st hcl
    subst h1; subst h2; subst h3
    exact Or.inr ⟨q, (T.setVm vm₁).calling g' mk As.toArray, t, U', L, E, ce, hT, X', hL, e1, e2, hq, hce, hcv, vx_cls hW₁ hcl, st⟩
end Runs
section Rows
variable {p : Program} {l : Launch} {e : Env} {R : Room} {s : State} {m : MethodId} {args : Array Value} {below : List Frame} {meth : Method} {c : Code} {H : Heap} {locs : List Loc} {cells slots : Nat} {Q : State → Prop}
variable {mc ms : Nat} {free : Addr → Prop} {A0 A1 : Nat → Prop} {H0 : Heap} {a : Array Value} {pc : Nat} {ls : Array Slot} {st0 rest : List Value}
theorem vx_keep {st₀ t T' : State} {L : List Loc} (h0 : st₀.heap = H) (e1 : T'.heap = t.heap) (hS : va_S A0 H0 H locs) (hA : ∀ q, q < H.size → A1 q → A0 q) (hf : ∀ q, free q → A0 q) (hL : ∀ q ∈ L, free q.base) (hF : va_F A1 st₀ t) :
    H.size ≤ T'.heap.size ∧ (∀ q : Nat, q < H.size → ¬ A1 q → T'.heap[q]? = H[q]?) ∧ va_S A0 H0 T'.heap (locs ++ L) := by
  obtain ⟨hz, hk⟩ := hF
  rw [h0] at hz hk
  exact ⟨by rw [e1]; exact hz, fun q h1 h2 => by rw [e1]; exact hk q h1 h2,
    ⟨Nat.le_trans hS.1 (by rw [e1]; exact hz), fun q h1 h2 => by rw [e1, hk q (Nat.lt_of_lt_of_le h1 hS.1) (fun z => h2 (hA q (Nat.lt_of_lt_of_le h1 hS.1) z))]; exact hS.2.1 q h1 h2, fun q hq => by
      rcases List.mem_append.mp hq with h | h
      · exact hS.2.2 q h
      · exact hf _ (hL q h)⟩⟩
theorem vx_calli {S SX : Type} {post : Int32 → S → Prop} {px : SX → Prop} {B : S → State → Prop} {BX : String → SX → State → Prop} {AX : Nat → Prop} (hr : vx_Run p l e R s m args below meth c H locs cells slots mc ms (F0 m pc ls st0) rest (va_Qi post B A1 a) (vx_X px BX AX) free) (hS : va_S A0 H0 H locs) (hA : ∀ q, q < H.size → A1 q → A0 q) (hf : ∀ q, free q → A0 q) (hAX : ∀ q, q < H.size → AX q → A0 q)
    (kx : ∀ (E : String) (ce : Cell) (q9 : Addr) (u : SX) (t : State) (H1 : Heap) (locs1 : List Loc), t.heap = H1 → s.vm.Alike t.vm → px u → BX E u t → H.size ≤ H1.size → (∀ q : Nat, q < H.size → ¬ AX q → H1[q]? = H[q]?) → va_S A0 H0 H1 locs1 → H1[q9]? = some ce → ce.vm = .none → s.vm.findClass E = some ce.cls → vx_W p l e R s m args below meth c H1 locs1 (cells + mc) (slots + ms) Q (F0 m pc ls rest) q9)
    (kk : ∀ (r : Int32) (u : S) (t : State) (H1 : Heap) (locs1 : List Loc), t.heap = H1 → s.vm.Alike t.vm → post r u → B u t → H.size ≤ H1.size → (∀ q : Nat, q < H.size → ¬ A1 q → H1[q]? = H[q]?) → va_S A0 H0 H1 locs1 → W p l e R s m args below meth c H1 locs1 (cells + mc) (slots + ms) Q (F0 m (pc + 3) ls (.int r :: rest))) : W p l e R s m args below meth c H locs cells slots Q (F0 m pc ls st0) := by
  intro T hT X
  rcases hr T hT X with ⟨v, st₀, t, T', L, h0, X', hL, e1, e2, ⟨⟨r, u, hv, hp, hb⟩, hF⟩, st⟩ | ⟨q, st₀, t, T', L, E, ce, h0, X', hL, e1, e2, ⟨u, hp, hb, hF⟩, hce, hcv, hcl, st⟩
  · cases hv
    obtain ⟨k1, k2, k3⟩ := vx_keep h0 e1 hS hA hf hL hF
    obtain ⟨t2, a1, b1⟩ := kk r u t T'.heap (locs ++ L) e1.symm (by rw [← e2]; exact X'.warmed.alike) hp hb k1 k2 k3 T' rfl X'
    exact ⟨t2, st t2 a1, b1⟩
  · obtain ⟨k1, k2, k3⟩ := vx_keep h0 e1 hS hAX hf hL hF
    obtain ⟨t2, a1, b1⟩ := kx E ce q u t T'.heap (locs ++ L) e1.symm (by rw [← e2]; exact X'.warmed.alike) hp hb k1 k2 k3 (by rw [e1]; exact hce) hcv hcl T' rfl X'
    exact ⟨t2, st.trans a1, b1⟩
theorem vx_calll {S SX : Type} {post : Int64 → S → Prop} {px : SX → Prop} {B : S → State → Prop} {BX : String → SX → State → Prop} {AX : Nat → Prop} (hr : vx_Run p l e R s m args below meth c H locs cells slots mc ms (F0 m pc ls st0) rest (va_Ql post B A1 a) (vx_X px BX AX) free) (hS : va_S A0 H0 H locs) (hA : ∀ q, q < H.size → A1 q → A0 q) (hf : ∀ q, free q → A0 q) (hAX : ∀ q, q < H.size → AX q → A0 q)
    (kx : ∀ (E : String) (ce : Cell) (q9 : Addr) (u : SX) (t : State) (H1 : Heap) (locs1 : List Loc), t.heap = H1 → s.vm.Alike t.vm → px u → BX E u t → H.size ≤ H1.size → (∀ q : Nat, q < H.size → ¬ AX q → H1[q]? = H[q]?) → va_S A0 H0 H1 locs1 → H1[q9]? = some ce → ce.vm = .none → s.vm.findClass E = some ce.cls → vx_W p l e R s m args below meth c H1 locs1 (cells + mc) (slots + ms) Q (F0 m pc ls rest) q9)
    (kk : ∀ (r : Int64) (u : S) (t : State) (H1 : Heap) (locs1 : List Loc), t.heap = H1 → s.vm.Alike t.vm → post r u → B u t → H.size ≤ H1.size → (∀ q : Nat, q < H.size → ¬ A1 q → H1[q]? = H[q]?) → va_S A0 H0 H1 locs1 → W p l e R s m args below meth c H1 locs1 (cells + mc) (slots + ms) Q (F0 m (pc + 3) ls (.long r :: rest))) : W p l e R s m args below meth c H locs cells slots Q (F0 m pc ls st0) := by
  intro T hT X
  rcases hr T hT X with ⟨v, st₀, t, T', L, h0, X', hL, e1, e2, ⟨⟨r, u, hv, hp, hb⟩, hF⟩, st⟩ | ⟨q, st₀, t, T', L, E, ce, h0, X', hL, e1, e2, ⟨u, hp, hb, hF⟩, hce, hcv, hcl, st⟩
  · cases hv
    obtain ⟨k1, k2, k3⟩ := vx_keep h0 e1 hS hA hf hL hF
    obtain ⟨t2, a1, b1⟩ := kk r u t T'.heap (locs ++ L) e1.symm (by rw [← e2]; exact X'.warmed.alike) hp hb k1 k2 k3 T' rfl X'
    exact ⟨t2, st t2 a1, b1⟩
  · obtain ⟨k1, k2, k3⟩ := vx_keep h0 e1 hS hAX hf hL hF
    obtain ⟨t2, a1, b1⟩ := kx E ce q u t T'.heap (locs ++ L) e1.symm (by rw [← e2]; exact X'.warmed.alike) hp hb k1 k2 k3 (by rw [e1]; exact hce) hcv hcl T' rfl X'
    exact ⟨t2, st.trans a1, b1⟩
theorem vx_callf {S SX : Type} {post : UInt32 → S → Prop} {px : SX → Prop} {B : S → State → Prop} {BX : String → SX → State → Prop} {AX : Nat → Prop} (hr : vx_Run p l e R s m args below meth c H locs cells slots mc ms (F0 m pc ls st0) rest (va_Qf post B A1 a) (vx_X px BX AX) free) (hS : va_S A0 H0 H locs) (hA : ∀ q, q < H.size → A1 q → A0 q) (hf : ∀ q, free q → A0 q) (hAX : ∀ q, q < H.size → AX q → A0 q)
    (kx : ∀ (E : String) (ce : Cell) (q9 : Addr) (u : SX) (t : State) (H1 : Heap) (locs1 : List Loc), t.heap = H1 → s.vm.Alike t.vm → px u → BX E u t → H.size ≤ H1.size → (∀ q : Nat, q < H.size → ¬ AX q → H1[q]? = H[q]?) → va_S A0 H0 H1 locs1 → H1[q9]? = some ce → ce.vm = .none → s.vm.findClass E = some ce.cls → vx_W p l e R s m args below meth c H1 locs1 (cells + mc) (slots + ms) Q (F0 m pc ls rest) q9)
    (kk : ∀ (r : UInt32) (u : S) (t : State) (H1 : Heap) (locs1 : List Loc), t.heap = H1 → s.vm.Alike t.vm → post r u → B u t → H.size ≤ H1.size → (∀ q : Nat, q < H.size → ¬ A1 q → H1[q]? = H[q]?) → va_S A0 H0 H1 locs1 → W p l e R s m args below meth c H1 locs1 (cells + mc) (slots + ms) Q (F0 m (pc + 3) ls (.float r :: rest))) : W p l e R s m args below meth c H locs cells slots Q (F0 m pc ls st0) := by
  intro T hT X
  rcases hr T hT X with ⟨v, st₀, t, T', L, h0, X', hL, e1, e2, ⟨⟨r, u, hv, hp, hb⟩, hF⟩, st⟩ | ⟨q, st₀, t, T', L, E, ce, h0, X', hL, e1, e2, ⟨u, hp, hb, hF⟩, hce, hcv, hcl, st⟩
  · cases hv
    obtain ⟨k1, k2, k3⟩ := vx_keep h0 e1 hS hA hf hL hF
    obtain ⟨t2, a1, b1⟩ := kk r u t T'.heap (locs ++ L) e1.symm (by rw [← e2]; exact X'.warmed.alike) hp hb k1 k2 k3 T' rfl X'
    exact ⟨t2, st t2 a1, b1⟩
  · obtain ⟨k1, k2, k3⟩ := vx_keep h0 e1 hS hAX hf hL hF
    obtain ⟨t2, a1, b1⟩ := kx E ce q u t T'.heap (locs ++ L) e1.symm (by rw [← e2]; exact X'.warmed.alike) hp hb k1 k2 k3 (by rw [e1]; exact hce) hcv hcl T' rfl X'
    exact ⟨t2, st.trans a1, b1⟩
theorem vx_calld {S SX : Type} {post : UInt64 → S → Prop} {px : SX → Prop} {B : S → State → Prop} {BX : String → SX → State → Prop} {AX : Nat → Prop} (hr : vx_Run p l e R s m args below meth c H locs cells slots mc ms (F0 m pc ls st0) rest (va_Qd post B A1 a) (vx_X px BX AX) free) (hS : va_S A0 H0 H locs) (hA : ∀ q, q < H.size → A1 q → A0 q) (hf : ∀ q, free q → A0 q) (hAX : ∀ q, q < H.size → AX q → A0 q)
    (kx : ∀ (E : String) (ce : Cell) (q9 : Addr) (u : SX) (t : State) (H1 : Heap) (locs1 : List Loc), t.heap = H1 → s.vm.Alike t.vm → px u → BX E u t → H.size ≤ H1.size → (∀ q : Nat, q < H.size → ¬ AX q → H1[q]? = H[q]?) → va_S A0 H0 H1 locs1 → H1[q9]? = some ce → ce.vm = .none → s.vm.findClass E = some ce.cls → vx_W p l e R s m args below meth c H1 locs1 (cells + mc) (slots + ms) Q (F0 m pc ls rest) q9)
    (kk : ∀ (r : UInt64) (u : S) (t : State) (H1 : Heap) (locs1 : List Loc), t.heap = H1 → s.vm.Alike t.vm → post r u → B u t → H.size ≤ H1.size → (∀ q : Nat, q < H.size → ¬ A1 q → H1[q]? = H[q]?) → va_S A0 H0 H1 locs1 → W p l e R s m args below meth c H1 locs1 (cells + mc) (slots + ms) Q (F0 m (pc + 3) ls (.double r :: rest))) : W p l e R s m args below meth c H locs cells slots Q (F0 m pc ls st0) := by
  intro T hT X
  rcases hr T hT X with ⟨v, st₀, t, T', L, h0, X', hL, e1, e2, ⟨⟨r, u, hv, hp, hb⟩, hF⟩, st⟩ | ⟨q, st₀, t, T', L, E, ce, h0, X', hL, e1, e2, ⟨u, hp, hb, hF⟩, hce, hcv, hcl, st⟩
  · cases hv
    obtain ⟨k1, k2, k3⟩ := vx_keep h0 e1 hS hA hf hL hF
    obtain ⟨t2, a1, b1⟩ := kk r u t T'.heap (locs ++ L) e1.symm (by rw [← e2]; exact X'.warmed.alike) hp hb k1 k2 k3 T' rfl X'
    exact ⟨t2, st t2 a1, b1⟩
  · obtain ⟨k1, k2, k3⟩ := vx_keep h0 e1 hS hAX hf hL hF
    obtain ⟨t2, a1, b1⟩ := kx E ce q u t T'.heap (locs ++ L) e1.symm (by rw [← e2]; exact X'.warmed.alike) hp hb k1 k2 k3 (by rw [e1]; exact hce) hcv hcl T' rfl X'
    exact ⟨t2, st.trans a1, b1⟩
theorem vx_callv {S SX : Type} {post : S → Prop} {px : SX → Prop} {B : S → State → Prop} {BX : String → SX → State → Prop} {AX : Nat → Prop} (hr : vx_Run p l e R s m args below meth c H locs cells slots mc ms (F0 m pc ls st0) rest (va_Qv post B A1 a) (vx_X px BX AX) free) (hS : va_S A0 H0 H locs) (hA : ∀ q, q < H.size → A1 q → A0 q) (hf : ∀ q, free q → A0 q) (hAX : ∀ q, q < H.size → AX q → A0 q)
    (kx : ∀ (E : String) (ce : Cell) (q9 : Addr) (u : SX) (t : State) (H1 : Heap) (locs1 : List Loc), t.heap = H1 → s.vm.Alike t.vm → px u → BX E u t → H.size ≤ H1.size → (∀ q : Nat, q < H.size → ¬ AX q → H1[q]? = H[q]?) → va_S A0 H0 H1 locs1 → H1[q9]? = some ce → ce.vm = .none → s.vm.findClass E = some ce.cls → vx_W p l e R s m args below meth c H1 locs1 (cells + mc) (slots + ms) Q (F0 m pc ls rest) q9)
    (kk : ∀ (u : S) (t : State) (H1 : Heap) (locs1 : List Loc), t.heap = H1 → s.vm.Alike t.vm → post u → B u t → H.size ≤ H1.size → (∀ q : Nat, q < H.size → ¬ A1 q → H1[q]? = H[q]?) → va_S A0 H0 H1 locs1 → W p l e R s m args below meth c H1 locs1 (cells + mc) (slots + ms) Q (F0 m (pc + 3) ls (rest))) : W p l e R s m args below meth c H locs cells slots Q (F0 m pc ls st0) := by
  intro T hT X
  rcases hr T hT X with ⟨v, st₀, t, T', L, h0, X', hL, e1, e2, ⟨⟨u, hv, hp, hb⟩, hF⟩, st⟩ | ⟨q, st₀, t, T', L, E, ce, h0, X', hL, e1, e2, ⟨u, hp, hb, hF⟩, hce, hcv, hcl, st⟩
  · cases hv
    obtain ⟨k1, k2, k3⟩ := vx_keep h0 e1 hS hA hf hL hF
    obtain ⟨t2, a1, b1⟩ := kk u t T'.heap (locs ++ L) e1.symm (by rw [← e2]; exact X'.warmed.alike) hp hb k1 k2 k3 T' rfl X'
    exact ⟨t2, st t2 a1, b1⟩
  · obtain ⟨k1, k2, k3⟩ := vx_keep h0 e1 hS hAX hf hL hF
    obtain ⟨t2, a1, b1⟩ := kx E ce q u t T'.heap (locs ++ L) e1.symm (by rw [← e2]; exact X'.warmed.alike) hp hb k1 k2 k3 (by rw [e1]; exact hce) hcv hcl T' rfl X'
    exact ⟨t2, st.trans a1, b1⟩
/-- caught by the row x of this method's table; the rows ahead don't take it -/
theorem vx_catch {own name : String} {E : String} {ce : Cell} {q : Addr} (hown : s.vm.findClass own = some m.cls) (pre : List ExceptionTableEntry) (x : ExceptionTableEntry) (suf : List ExceptionTableEntry) (hsplit : c.exceptionTable.toList = pre ++ x :: suf)
    (hpass : ∀ z ∈ pre, covers z pc = false ∨ (z.catchType ≠ 0 ∧ ∃ nm : String, (Cond.classLink own z.catchType nm).before args s = true ∧ va_Nc E nm s)) (hx : covers x pc = true) (h0 : x.catchType ≠ 0)
    (hlink : (Cond.classLink own x.catchType name).before args s = true) (hcast : (Cond.castable E name).before args s = true) (hcell : H[q]? = some ce) (hv : ce.vm = .none) (hcl : s.vm.findClass E = some ce.cls)
    (kk : W p l e R s m args below meth c H locs cells slots Q (F0 m x.handlerPc ls [.ref q])) : vx_W p l e R s m args below meth c H locs cells slots Q (F0 m pc ls rest) q := by
  intro T hT X
  have hpl : e.platform.magicAccessors = ({} : Platform).magicAccessors := by rw [X.admits.platform]
  obtain ⟨c3, c4, hc3, hc4, hasg⟩ := Cond.castable_spec hcast
  cases Option.some.inj (hc3.symm.trans hcl)
  obtain ⟨c5, hc5, hcl5⟩ := Cond.classLink_spec hown hlink e.platform hpl
  cases Option.some.inj (hc4.symm.trans hc5)
  obtain ⟨vm', X', st⟩ := X.thenCaughtThrough q (g := F0 m pc ls rest) rfl (Steps.refl _) (by rw [hT]; exact hcell) (by rw [hv]; rfl) (by obtain ⟨k9, h9, -⟩ := Vm.findClass_spec hcl; exact ⟨k9, h9⟩) pre x suf hsplit
    (fun z hz => by
      rcases hpass z hz with h | ⟨hz0, nm, hl1, hn1⟩
      · exact Or.inl h
      · obtain ⟨c6, hc6, hcl6⟩ := Cond.classLink_spec hown hl1 e.platform hpl
        obtain ⟨a8, b8, h1, h2, h3⟩ := hn1
        cases Option.some.inj (h1.symm.trans hcl)
        cases Option.some.inj (h2.symm.trans hc6)
        exact Or.inr ⟨hz0, _, hcl6, h3⟩) hx (Or.inr ⟨h0, c4, hcl5, hasg⟩)
  obtain ⟨t, a1, b1⟩ := kk (T.setVm vm') hT X'
  exact ⟨t, st.trans a1, b1⟩
end Rows
section Ends
variable {p : Program} {l : Launch} {e : Env} {R : Room} {s : State} {m : MethodId} {args : Array Value} {below : List Frame} {meth : Method} {c : Code} {H : Heap} {locs : List Loc} {cells slots : Nat} {Q : State → Prop}
variable {mc ms : Nat} {free : Addr → Prop} {A0 A1 : Nat → Prop} {H0 : Heap} {a : Array Value} {ls : Array Slot} {st0 rest : List Value}
variable {Qc : Array Value → State → Outcome → State → Prop} {XC : String → State → State → Prop}
/-- what a body that may throw owes at its end -/
def vx_MQ (below : List Frame) (Qc : Array Value → State → Outcome → State → Prop) (XC : String → State → State → Prop) (a : Array Value) (s : State) (mc ms : Nat) (free : Addr → Prop) : State → Prop := fun t =>
  ∃ o, t.status = .running ∧ Ended t below o ∧ vx_Q Qc XC mc ms free a s o t
theorem vx_ret {g : JFrame} {mc ms : Nat} (k : W p l e R s m args below meth c H locs cells slots (MQ below Qc args s mc ms free) g) : W p l e R s m args below meth c H locs cells slots (vx_MQ below Qc XC args s mc ms free) g := by
  intro T hT X
  obtain ⟨t, a1, o, b1, b2, b3, b4⟩ := k T hT X
  exact ⟨t, a1, o, b1, b2, Or.inl ⟨b3, b4⟩⟩
/-- not caught here: it goes on to the caller -/
theorem vx_widen {g : JFrame} {q : Addr} {k n : Nat} (h1 : cells ≤ k) (h2 : slots ≤ n) (kk : vx_W p l e R s m args below meth c H locs k n Q g q) : vx_W p l e R s m args below meth c H locs cells slots Q g q := fun T hT X => kk T hT (stand_widen X h1 h2)
theorem vx_out {pc : Nat} {E : String} {ce : Cell} {q : Addr} {mc ms : Nat} (hout : ∀ x ∈ c.exceptionTable.toList, covers x pc = false) (hlocks : meth.locks = false) (hcell : H[q]? = some ce) (hv : ce.vm = .none) (hcl : s.vm.findClass E = some ce.cls)
    (hx : ∀ t : State, t.heap = H → s.vm.Alike t.vm → XC E s t) (hf : ∀ z ∈ locs, free z.base) (hc : cells ≤ mc) (hs : slots ≤ ms) :
    vx_W p l e R s m args below meth c H locs cells slots (vx_MQ below Qc XC args s mc ms free) (F0 m pc ls rest) q := by
  intro T hT X
  obtain ⟨st1, hrun, hend, hW, hsm⟩ := X.leaveThrown q (g := F0 m pc ls rest) rfl rfl rfl hout hlocks
  have hcell9 : (T.setFrames (.throwing q :: below)).heap[q]? = some ce := by
    show T.heap[q]? = some ce
    rw [hT]; exact hcell
  exact ⟨_, st1, .threw q, hrun, hend, Or.inr ⟨q, rfl, E, ce, locs, hx _ hT hW.alike, hcell9, hv, hcl, hW, hsm.mono hc hs, hf⟩⟩
theorem vx_frame {U : State} {k n : Nat} (h : s.sameButNew ({ U with vm := s.vm } : State) locs k n) : s.heap.size ≤ U.heap.size ∧ ∀ q : Nat, q < s.heap.size → (∀ z ∈ locs, z.base ≠ q) → U.heap[q]? = s.heap[q]? := by
  obtain ⟨-, h2, -, -, -, h6⟩ := h
  refine ⟨h2, fun q hq hz => ?_⟩
  obtain ⟨c9, e1, e2, e3, e4⟩ := h6 q _ (Array.getElem?_eq_getElem hq)
  have hs : c9.slots = (s.heap[q]).slots := Array.ext_getElem? fun i => e4 i fun hm => hz _ hm rfl
  have h9 : c9 = s.heap[q] := by
    rw [hs] at e2
    exact e2
  have e5 : U.heap[q]? = some c9 := e1
  rw [e5, h9, Array.getElem?_eq_getElem hq]
/-- the words of a throw but the four that speak of the heap -/
def vx_no (w : Cond) : Bool := decide (w ≠ .isRef (.static Bundle.tN "UNASSIGNED_STACK" Bundle.steD)) && decide (w ≠ .isRef (.static Bundle.tN "SUPPRESSED_SENTINEL" Bundle.listD)) && decide (w ≠ .laysStatic Bundle.tN "UNASSIGNED_STACK" Bundle.steD) && decide (w ≠ .laysStatic Bundle.tN "SUPPRESSED_SENTINEL" Bundle.listD)
def vx_at0 (own : String) (ic : Nat) (X : String) (names : List String) : List Cond := (Bundle.ownAtoms0 own ic X names).filter vx_no
def vx_atS (own : String) (ic : Nat) (X : String) (names : List String) : List Cond := (Bundle.ownAtoms own ic X names).filter vx_no
/-- a word that the tables alone decide, or a good one -/
def vx_ot (w : Cond) : Bool := w.onTables || goodWord w
theorem vx_ot_at {args a' : Array Value} {s U : State} {w : Cond} (hW : s.WarmedH U.vm) (hvm : s.vm = U.vm) (hg : vx_ot w = true) (h : w.before args s = true) : w.before a' U = true := by
  simp only [vx_ot, Bool.or_eq_true] at hg
  rcases hg with hg | hg
  · exact va_tabs hg hvm h
  · exact word_at hW (good_of_word hg) h
/-- a list's words: the good ones out of the method's own list, the others by premises of their own -/
theorem vx_hat {args : Array Value} {s : State} {L B : List Cond} (h1 : ∀ w ∈ L.filter goodWord, w.before args s = true) (h2 : ∀ w ∈ L.filter (fun w => !goodWord w), w ∈ B) (h3 : ∀ w ∈ B, w.before args s = true) : ∀ w ∈ L, w.before args s = true := by
  intro w hw
  by_cases g : goodWord w = true
  · exact h1 w (List.mem_filter.mpr ⟨hw, g⟩)
  · refine h3 w (h2 w (List.mem_filter.mpr ⟨hw, ?_⟩))
    show (!goodWord w) = true
    cases hgw : goodWord w
    · rfl
    · exact absurd hgw g
theorem vx_c {args : Array Value} {s : State} {w : Cond} {B : List Cond} (h : w.before args s = true) (t : ∀ w ∈ B, w.before args s = true) : ∀ w' ∈ w :: B, w'.before args s = true := fun w' h' => (List.mem_cons.mp h').elim (fun e => by rw [e]; exact h) (t w')
theorem vx_n {args : Array Value} {s : State} : ∀ w ∈ ([] : List Cond), w.before args s = true := fun _ h => nomatch h
theorem vx_own {args : Array Value} {s : State} {L : List Cond} (h1 : ∀ w ∈ L.filter vx_no, w.before args s = true)
    (hU : (Cond.isRef (.static Bundle.tN "UNASSIGNED_STACK" Bundle.steD)).before args s = true) (hN : (Cond.isRef (.static Bundle.tN "SUPPRESSED_SENTINEL" Bundle.listD)).before args s = true)
    (lU : (Cond.laysStatic Bundle.tN "UNASSIGNED_STACK" Bundle.steD).before args s = true) (lN : (Cond.laysStatic Bundle.tN "SUPPRESSED_SENTINEL" Bundle.listD).before args s = true) : ∀ w ∈ L, w.before args s = true := by
  intro w hw
  by_cases e1 : w = .isRef (.static Bundle.tN "UNASSIGNED_STACK" Bundle.steD)
  · rw [e1]; exact hU
  · by_cases e2 : w = .isRef (.static Bundle.tN "SUPPRESSED_SENTINEL" Bundle.listD)
    · rw [e2]; exact hN
    · by_cases e3 : w = .laysStatic Bundle.tN "UNASSIGNED_STACK" Bundle.steD
      · rw [e3]; exact lU
      · by_cases e4 : w = .laysStatic Bundle.tN "SUPPRESSED_SENTINEL" Bundle.listD
        · rw [e4]; exact lN
        · exact h1 w (List.mem_filter.mpr ⟨hw, by unfold vx_no; rw [decide_eq_true e1, decide_eq_true e2, decide_eq_true e3, decide_eq_true e4]; rfl⟩)
/-- where a static field lies, its class's statics cell in H -/
def vx_L (C n d : String) (A : Nat → Prop) (U : State) (H : Heap) : Prop := ∃ (c : ClassId) (k : Class) (i : Nat) (f : Field) (a : Nat) (cell : Cell), U.vm.findClass C = some c ∧ U.fieldFound? C n d = some (c, k, i, f) ∧ f.isStatic = true ∧ k.statics = some a ∧ H[a]? = some cell ∧ cell.vm.isStatics = true ∧ cell.cls = c ∧ f.slot < cell.slots.size ∧ k.staticTypes[f.slot]? = some f.type ∧ ¬ A a
theorem vx_L.moved {C n d : String} {A : Nat → Prop} {u U : State} {H : Heap} (hvm : u.vm.Alike U.vm) (h : vx_L C n d A u H) : vx_L C n d A U H := by
  obtain ⟨c, k, i, f, a, cell, h1, h2, h3, h4, h5, h6, h7, h8, h9, h10⟩ := h
  obtain ⟨k', hi', he⟩ := State.fieldFound?_setVm hvm h2
  exact ⟨c, k', i, f, a, cell, by rw [hvm.findClass]; exact h1, hi', h3, by rw [he]; exact h4, h5, h6, h7, h8, by rw [he]; exact h9, h10⟩
theorem vx_L.kept {C n d : String} {A : Nat → Prop} {U : State} {H H1 : Heap} (h : vx_L C n d A U H) (hq : ∀ a : Nat, a < H.size → ¬ A a → H1[a]? = H[a]?) : vx_L C n d A U H1 := by
  obtain ⟨c, k, i, f, a, cell, h1, h2, h3, h4, h5, h6, h7, h8, h9, h10⟩ := h
  exact ⟨c, k, i, f, a, cell, h1, h2, h3, h4, by rw [hq a (Array.getElem?_eq_some_iff.mp h5).1 h10]; exact h5, h6, h7, h8, h9, h10⟩
theorem vx_L.narrow {C n d : String} {A B : Nat → Prop} {U : State} {H : Heap} (h : vx_L C n d A U H) (hAB : ∀ q, B q → A q) : vx_L C n d B U H := by
  obtain ⟨c, k, i, f, a, cell, h1, h2, h3, h4, h5, h6, h7, h8, h9, h10⟩ := h
  exact ⟨c, k, i, f, a, cell, h1, h2, h3, h4, h5, h6, h7, h8, h9, fun z => h10 (hAB _ z)⟩
theorem vx_L.word {C n d : String} {A : Nat → Prop} {s : State} {args : Array Value} (h : vx_L C n d A s s.heap) : (Cond.laysStatic C n d).before args s = true := by
  obtain ⟨c, k, i, f, a, cell, h1, h2, h3, h4, h5, h6, h7, h8, h9, -⟩ := h
  show (Cond.laysStatic C n d).holds args s none s [] = true
  exact Cond.laysStatic_of h1 h2 h3 h4 h5 h6 h7 h8 h9
/-- .. and what it holds: null or some reference -/
def vx_Zq (C n d : String) (A : Nat → Prop) (U : State) (H : Heap) : Prop := va_Zq C n d A U H ∧ vx_L C n d A U H
theorem vx_Zq.moved {C n d : String} {A : Nat → Prop} {u U : State} {H : Heap} (hvm : u.vm.Alike U.vm) (h : vx_Zq C n d A u H) : vx_Zq C n d A U H := ⟨va_Zq.moved hvm h.1, vx_L.moved hvm h.2⟩
theorem vx_Zq.kept {C n d : String} {A : Nat → Prop} {U : State} {H H1 : Heap} (h : vx_Zq C n d A U H) (hq : ∀ a : Nat, a < H.size → ¬ A a → H1[a]? = H[a]?) : vx_Zq C n d A U H1 := ⟨va_Zq.kept h.1 hq, vx_L.kept h.2 hq⟩
theorem vx_Zq.narrow {C n d : String} {A B : Nat → Prop} {U : State} {H : Heap} (h : vx_Zq C n d A U H) (hAB : ∀ q, B q → A q) : vx_Zq C n d B U H := ⟨va_Zq.narrow h.1 hAB, vx_L.narrow h.2 hAB⟩
theorem vx_Zqof {args : Array Value} {s : State} {C n d : String} {A : Nat → Prop} (hl : (Cond.laysStatic C n d).before args s = true) (hini : (Cond.initialized C).before args s = true) (h : (Cond.isRef (.static C n d)).before args s = true) (hA : ∀ a : Nat, a < s.heap.size → ¬ A a) : vx_Zq C n d A s s.heap := by
  refine ⟨va_Zqof hl hini h hA, ?_⟩
  obtain ⟨c, k, i, f, a, cell, h1, h2, h3, h4, h5, h6, h7, h8, h9⟩ := Cond.laysStatic_spec hl
  exact ⟨c, k, i, f, a, cell, h1, h2, h3, h4, h5, h6, h7, h8, h9, hA a (Array.getElem?_eq_some_iff.mp h5).1⟩
theorem vx_isRef {C n d : String} {v : Value} {A : Nat → Prop} {s : State} {args : Array Value} (h : va_Z C n d v A s s.heap) (hv : v.isRef = true) : (Cond.isRef (.static C n d)).before args s = true := by
  obtain ⟨cf, kf, fi, f, a, cell, h1, h2, h3, h4, h5, h6, h7, -⟩ := h
  have he : (Term.static C n d).eval args s none [] s = some v := by
    simp [Term.eval, State.fieldNamed?, h1, h2, h4, h5, h6, h7]
  simp only [Cond.before, Cond.holds, Cond.value, he]
  cases v <;> simp_all [Value.isRef]
theorem vx_isRefq {C n d : String} {A : Nat → Prop} {s : State} {args : Array Value} (h : va_Zq C n d A s s.heap) : (Cond.isRef (.static C n d)).before args s = true := by
  rcases h with h | ⟨t, h⟩
  · exact vx_isRef h rfl
  · exact vx_isRef h rfl
/-- the same frame, seen from here: as if the method were called anew in this heap -/
theorem vx_rebase {T : State} (X : Stand p l e R s m args below meth c T locs cells slots) {R' : Room} (hf : R'.frames ≤ R.frames) (hl : R'.locals ≤ R.locals) (hc : cells + R'.cells ≤ R.cells) (hs : slots + R'.slots ≤ R.slots) :
    Stand p l e R' ((T.setVm s.vm).setFrames (.invoking m args :: below)) m args below meth c T [] 0 0 := by
  have htop : (T.setVm s.vm).topJava?.isSome := X.here.top
  have hF : ((T.setVm s.vm).setFrames (.invoking m args :: below)).frames = .invoking m args :: below := State.frames_setFrames _ (State.cur_lt_of_top htop)
  obtain ⟨g₀, hg0⟩ := Option.isSome_iff_exists.mp htop
  obtain ⟨r, hr⟩ := State.topJava?_eq_some.mp hg0
  have hl9 : e.platform.stackLimits (T.setVm s.vm).me = e.platform.stackLimits s.me := X.limits
  have hb9 : (T.setVm s.vm).me.stackBytes = s.me.stackBytes := X.bytes
  refine ⟨X.admits, X.cas, X.clock, hF, ?_, X.hears, X.method, X.code, X.here, X.tail, X.warmed, ?_, ?_, ?_⟩
  · have h := X.room
    have hU : ((T.setVm s.vm).setFrames (.invoking m args :: below)).localsInUse = s.localsInUse := by
      rw [State.localsInUse_invoking hF (meth := meth) (c := c) X.method X.code, State.localsInUse_invoking X.frames X.method X.code]
    simp only [State.hasRoom, Bool.and_eq_true, decide_eq_true_eq] at h ⊢
    obtain ⟨⟨⟨⟨h1, h2, h3, h4, h5, h6⟩, h7⟩, h8⟩, h9⟩ := h
    rw [X.frames, List.length_cons] at h2 h3
    have q1 := X.heapSize
    have q2 := X.used
    simp only [hF, hU, List.length_cons, State.stackLimits_setFrames, State.stackBytes_setFrames, hl9, hb9]
    refine ⟨⟨⟨⟨by omega, by omega, by omega, by omega, by omega, h6⟩, ?_⟩, ?_⟩, X.book⟩
    · show T.heap.size + R'.cells ≤ e.platform.maxCells
      omega
    · show T.slotsUsed + R'.slots ≤ e.platform.maxSlots
      omega
  · rw [State.stackLimits_setFrames]; rfl
  · rw [State.stackBytes_setFrames]; rfl
  · refine ⟨?_, Nat.le_refl _, Nat.le_refl _, ?_, ?_, fun a c9 h9 => ⟨c9, h9, rfl, rfl, fun _ _ => rfl⟩⟩
    · obtain ⟨t, ht, -⟩ := State.frames_cons hr
      show T.setVm s.vm = { ((T.setVm s.vm).setFrames (.invoking m args :: below)).setFrames (T.setVm s.vm).frames with heap := T.heap, slotsUsed := T.slotsUsed }
      rw [State.setFrames_setFrames, State.setFrames_self ht]
      rfl
    · show T.slotsUsed = T.slotsUsed + ((T.heap.toList.drop T.heap.size).map (·.slots.size)).sum
      rw [List.drop_eq_nil_of_le (Nat.le_of_eq Array.length_toList)]
      rfl
    · show ((T.heap.toList.drop T.heap.size).map (·.slots.size)).sum ≤ 0
      rw [List.drop_eq_nil_of_le (Nat.le_of_eq Array.length_toList)]
      exact Nat.le_refl _
/-- 'throw new E()': new; dup; invokespecial; athrow -/
theorem vx_throw0 {cc : ByteArray} {pc : Nat} (hexec : p.tables.exec = Jvm.exec) (hb : c.code = cc) (hl : l.stackTraces = false) {own cls : String} {names : List String} {ik ic mc ms : Nat} {A : Nat → Prop}
    (hown : s.vm.findClass own = some m.cls) (hcls : Bundle.fit cls = true) (hnames : ∀ n ∈ names, Bundle.fit n = true)
    (hk : (Cond.classLink own ik cls).before args s = true) (hini : (Cond.initialized cls).before args s = true) (hat : ∀ w ∈ vx_at0 own ic cls names, w.before args s = true)
    (hgood : ∀ w ∈ Cond.classLink own ik cls :: Cond.initialized cls :: vx_at0 own ic cls names, vx_ot w = true)
    (hU : vx_Zq Bundle.tN "UNASSIGNED_STACK" Bundle.steD A s s.heap) (hN : vx_Zq Bundle.tN "SUPPRESSED_SENTINEL" Bundle.listD A s s.heap) (hS : va_S A s.heap H locs) (hsize : ls.size = c.maxLocals)
    (d0 : decode cc pc = .ok (.new ik, 3)) (d3 : decode cc (pc + 3) = .ok (.dup, 1)) (d4 : decode cc (pc + 4) = .ok (.invokespecial ic, 3)) (d7 : decode cc (pc + 7) = .ok (.athrow, 1))
    (hout : ∀ x ∈ c.exceptionTable.toList, covers x (pc + 7) = false)
    (hRframes : names.length + 3 < R.frames) (hRlocals : (rest.map fun v => v.category).sum + (13 * (names.length + 1) + 42) ≤ R.locals) (hRcells : cells + 1 ≤ R.cells) (hRslots : slots + 6 ≤ R.slots) (hlocks : meth.locks = false)
    (hx : ∀ t : State, s.vm.Alike t.vm → H.size ≤ t.heap.size → (∀ q : Nat, q < H.size → t.heap[q]? = H[q]?) → XC cls s t)
    (hf : ∀ z ∈ locs, free z.base) (hc : cells + 1 ≤ mc) (hs : slots + 6 ≤ ms) :
    W p l e R s m args below meth c H locs cells slots (vx_MQ below Qc XC args s mc ms free) (F0 m pc ls rest) := by
  intro T hT X
  have htr : e.platform.stackTraces = false := (show e.platform.stackTraces = l.stackTraces by rw [X.admits.platform]).trans hl
  have Y := vx_rebase X (R' := { frames := R.frames, locals := R.locals, cells := 1, slots := 6 }) (Nat.le_refl _) (Nat.le_refl _) hRcells hRslots
  obtain ⟨s', hA⟩ : ∃ z, z = (T.setVm s.vm).setFrames (.invoking m args :: below) := ⟨_, rfl⟩
  rw [← hA] at Y
  have hvm : s'.vm = s.vm := by rw [hA]; rfl
  have hhp : s'.heap = H := by rw [hA]; exact hT
  have hW0 : s.WarmedH s'.vm := by rw [hvm]; exact State.WarmedH.refl s
  have hat' : ∀ w ∈ vx_at0 own ic cls names, w.before args s' = true := fun w hw => vx_ot_at hW0 hvm.symm (hgood w (List.mem_cons_of_mem _ (List.mem_cons_of_mem _ hw))) (hat w hw)
  have hk' : (Cond.classLink own ik cls).before args s' = true := vx_ot_at hW0 hvm.symm (hgood _ List.mem_cons_self) hk
  have hini' : (Cond.initialized cls).before args s' = true := vx_ot_at hW0 hvm.symm (hgood _ (List.mem_cons_of_mem _ List.mem_cons_self)) hini
  have hU' : vx_Zq Bundle.tN "UNASSIGNED_STACK" Bundle.steD A s' s'.heap := by rw [hhp]; exact vx_Zq.moved hW0.alike (hU.kept hS.2.1)
  have hN' : vx_Zq Bundle.tN "SUPPRESSED_SENTINEL" Bundle.listD A s' s'.heap := by rw [hhp]; exact vx_Zq.moved hW0.alike (hN.kept hS.2.1)
  have h : ∀ w ∈ Bundle.ownAtoms0 own ic cls names, w.before args s' = true := vx_own hat' (vx_isRefq hU'.1) (vx_isRefq hN'.1) hU'.2.word hN'.2.word
  have hown' : s'.vm.findClass own = some m.cls := by rw [hvm]; exact hown
  have hins : (Cond.instantiable cls 6).before args s' = true := h _ (by simp [Bundle.ownAtoms0])
  obtain ⟨vm₁, cX, kX, hfX, hkX, -, -, X₁, st1⟩ := Y.newCold hexec (own := own) (C := cls) (index := ik) (n := 6) hown' hk' hins hini'
    (g := F0 m pc ls rest) rfl (by rw [hb]; exact d0) (Nat.le_refl _) (Nat.le_refl _)
  generalize hT1 : (T.setVm vm₁).pushCell { cls := cX, slots := kX.instanceTypes.map defaultValue, vm := .none } = T1 at X₁ st1
  have hcat : (Value.ref T.heap.size).category = 1 := rfl
  have hcellA : T1.heap[T.heap.size]? = some (freshCell cX kX) := by rw [← hT1]; exact State.heap_pushCell_size _ _
  have d3' : decode c.code (pc + 3) = .ok (.dup, 1) := by rw [hb]; exact d3
  obtain ⟨U, hsteps, hrun, hend, hW, hsame, ce, hce, hO⟩ := X₁.ctorThrow0 hexec htr (own := own) (cls := cls) (names := names) (ic := ic) hown' hcls hnames h (fun x hx => nomatch hx) hfX hkX hcellA (by rw [hhp, hT]; exact Nat.le_refl _)
    (g := { method := m, pc := pc + 4, locals := ls, stack := .ref T.heap.size :: .ref T.heap.size :: rest, locked := none }) rfl hsize rfl rfl (rest := rest) rfl
    (by rw [hb]; exact d4) (by rw [hb]; exact d7) hout hRframes (by simp only [List.map_cons, List.sum_cons, hcat]; omega) hlocks
  obtain ⟨f1, f2⟩ := vx_frame hsame
  rw [hhp] at f1 f2
  have hWs : s.WarmedH U.vm := State.WarmedH.trans hW0 hW
  have hcl : s.vm.findClass cls = some ce.cls := by
    have h9 := hO.cls
    rw [hvm] at h9
    exact h9
  have hall : s.sameButNew ({ U with vm := s.vm } : State) locs mc ms := by
    subst hA
    obtain ⟨e1, e2⟩ := hsame
    rw [State.setFrames_setFrames] at e1
    have h2 : (T.setVm s.vm).sameButNew ({ U with vm := s.vm } : State) [] (0 + 1) (0 + 6) := ⟨e1, e2⟩
    have h3 := X.same.trans h2
    rw [List.append_nil] at h3
    exact h3.mono hc hs
  refine ⟨U, ?_, .threw T.heap.size, hrun, hend, Or.inr ⟨T.heap.size, rfl, cls, ce, locs, hx U hWs.alike f1 (fun q hq => f2 q hq (fun z hz => nomatch hz)), hce, hO.vm, hcl, hWs, hall, hf⟩⟩
  refine st1 _ ?_
  show Steps p.tables e below (T1.setTop { method := m, pc := pc + 3, locals := ls, stack := .ref T.heap.size :: rest, locked := none }) _
  jvm_step X₁.here [X₁.here.top, hexec, d3', Value.category]
  exact hsteps
/-- 'throw new E("text")': new; dup; ldc; invokespecial; athrow -/
theorem vx_throwS {cc : ByteArray} {pc : Nat} (hexec : p.tables.exec = Jvm.exec) (hb : c.code = cc) (hl : l.stackTraces = false) {own cls text : String} {names : List String} {ik is ic mc ms sa : Nat} {A : Nat → Prop}
    (hown : s.vm.findClass own = some m.cls) (hcls : Bundle.fit cls = true) (hnames : ∀ n ∈ names, Bundle.fit n = true)
    (hk : (Cond.classLink own ik cls).before args s = true) (hini : (Cond.initialized cls).before args s = true) (hstr : vk_R own is text sa s) (hat : ∀ w ∈ vx_atS own ic cls names, w.before args s = true)
    (hgood : ∀ w ∈ Cond.classLink own ik cls :: Cond.initialized cls :: vx_atS own ic cls names, vx_ot w = true)
    (hU : vx_Zq Bundle.tN "UNASSIGNED_STACK" Bundle.steD A s s.heap) (hN : vx_Zq Bundle.tN "SUPPRESSED_SENTINEL" Bundle.listD A s s.heap) (hS : va_S A s.heap H locs) (hsize : ls.size = c.maxLocals)
    (d0 : decode cc pc = .ok (.new ik, 3)) (d3 : decode cc (pc + 3) = .ok (.dup, 1)) (d4 : decode cc (pc + 4) = .ok (.ldc is, 2)) (d6 : decode cc (pc + 6) = .ok (.invokespecial ic, 3)) (d9 : decode cc (pc + 9) = .ok (.athrow, 1))
    (hout : ∀ x ∈ c.exceptionTable.toList, covers x (pc + 9) = false)
    (hRframes : names.length + 3 < R.frames) (hRlocals : (rest.map fun v => v.category).sum + (13 * (names.length + 1) + 43) ≤ R.locals) (hRcells : cells + 1 ≤ R.cells) (hRslots : slots + 6 ≤ R.slots) (hlocks : meth.locks = false)
    (hx : ∀ t : State, s.vm.Alike t.vm → H.size ≤ t.heap.size → (∀ q : Nat, q < H.size → t.heap[q]? = H[q]?) → XC cls s t)
    (hf : ∀ z ∈ locs, free z.base) (hc : cells + 1 ≤ mc) (hs : slots + 6 ≤ ms) :
    W p l e R s m args below meth c H locs cells slots (vx_MQ below Qc XC args s mc ms free) (F0 m pc ls rest) := by
  intro T hT X
  have htr : e.platform.stackTraces = false := (show e.platform.stackTraces = l.stackTraces by rw [X.admits.platform]).trans hl
  have Y := vx_rebase X (R' := { frames := R.frames, locals := R.locals, cells := 1, slots := 6 }) (Nat.le_refl _) (Nat.le_refl _) hRcells hRslots
  obtain ⟨s', hA⟩ : ∃ z, z = (T.setVm s.vm).setFrames (.invoking m args :: below) := ⟨_, rfl⟩
  rw [← hA] at Y
  have hvm : s'.vm = s.vm := by rw [hA]; rfl
  have hhp : s'.heap = H := by rw [hA]; exact hT
  have hW0 : s.WarmedH s'.vm := by rw [hvm]; exact State.WarmedH.refl s
  have hat' : ∀ w ∈ vx_atS own ic cls names, w.before args s' = true := fun w hw => vx_ot_at hW0 hvm.symm (hgood w (List.mem_cons_of_mem _ (List.mem_cons_of_mem _ hw))) (hat w hw)
  have hk' : (Cond.classLink own ik cls).before args s' = true := vx_ot_at hW0 hvm.symm (hgood _ List.mem_cons_self) hk
  have hini' : (Cond.initialized cls).before args s' = true := vx_ot_at hW0 hvm.symm (hgood _ (List.mem_cons_of_mem _ List.mem_cons_self)) hini
  have hU' : vx_Zq Bundle.tN "UNASSIGNED_STACK" Bundle.steD A s' s'.heap := by rw [hhp]; exact vx_Zq.moved hW0.alike (hU.kept hS.2.1)
  have hN' : vx_Zq Bundle.tN "SUPPRESSED_SENTINEL" Bundle.listD A s' s'.heap := by rw [hhp]; exact vx_Zq.moved hW0.alike (hN.kept hS.2.1)
  have h : ∀ w ∈ Bundle.ownAtoms own ic cls names, w.before args s' = true := vx_own hat' (vx_isRefq hU'.1) (vx_isRefq hN'.1) hU'.2.word hN'.2.word
  have hown' : s'.vm.findClass own = some m.cls := by rw [hvm]; exact hown
  have hins : (Cond.instantiable cls 6).before args s' = true := h _ (by simp [Bundle.ownAtoms])
  obtain ⟨vm₁, cX, kX, hfX, hkX, -, -, X₁, st1⟩ := Y.newCold hexec (own := own) (C := cls) (index := ik) (n := 6) hown' hk' hins hini'
    (g := F0 m pc ls rest) rfl (by rw [hb]; exact d0) (Nat.le_refl _) (Nat.le_refl _)
  generalize hT1 : (T.setVm vm₁).pushCell { cls := cX, slots := kX.instanceTypes.map defaultValue, vm := .none } = T1 at X₁ st1
  have hcat : (Value.ref T.heap.size).category = 1 := rfl
  have hcellA : T1.heap[T.heap.size]? = some (freshCell cX kX) := by rw [← hT1]; exact State.heap_pushCell_size _ _
  have d3' : decode c.code (pc + 3) = .ok (.dup, 1) := by rw [hb]; exact d3
  have d4' : decode c.code (pc + 4) = .ok (.ldc is, 2) := by rw [hb]; exact d4
  have hstr' : vk_R own is text sa s' := vk_R.warm hW0 hstr
  obtain ⟨U, hsteps, hrun, hend, hW, hsame, ce, hce, hO⟩ := X₁.ctorThrowS hexec htr (own := own) (cls := cls) (names := names) (ic := ic) hown' hcls hnames h (fun x hx => nomatch hx) hfX hkX hcellA (by rw [hhp, hT]; exact Nat.le_refl _) (msg := .ref sa) rfl
    (g := { method := m, pc := pc + 6, locals := ls, stack := .ref sa :: .ref T.heap.size :: .ref T.heap.size :: rest, locked := none }) rfl hsize rfl rfl (rest := rest) rfl
    (by rw [hb]; exact d6) (by rw [hb]; exact d9) hout hRframes (by simp only [List.map_cons, List.sum_cons, hcat]; omega) hlocks
  obtain ⟨f1, f2⟩ := vx_frame hsame
  rw [hhp] at f1 f2
  have hWs : s.WarmedH U.vm := State.WarmedH.trans hW0 hW
  have hcl : s.vm.findClass cls = some ce.cls := by
    have h9 := hO.cls
    rw [hvm] at h9
    exact h9
  have hall : s.sameButNew ({ U with vm := s.vm } : State) locs mc ms := by
    subst hA
    obtain ⟨e1, e2⟩ := hsame
    rw [State.setFrames_setFrames] at e1
    have h2 : (T.setVm s.vm).sameButNew ({ U with vm := s.vm } : State) [] (0 + 1) (0 + 6) := ⟨e1, e2⟩
    have h3 := X.same.trans h2
    rw [List.append_nil] at h3
    exact h3.mono hc hs
  refine ⟨U, ?_, .threw T.heap.size, hrun, hend, Or.inr ⟨T.heap.size, rfl, cls, ce, locs, hx U hWs.alike f1 (fun q hq => f2 q hq (fun z hz => nomatch hz)), hce, hO.vm, hcl, hWs, hall, hf⟩⟩
  refine st1 _ ?_
  show Steps p.tables e below (T1.setTop { method := m, pc := pc + 3, locals := ls, stack := .ref T.heap.size :: rest, locked := none }) _
  jvm_step X₁.here [X₁.here.top, hexec, d3', Value.category]
  exact X₁.ldcString hexec (own := own) (text := text) (index := is) (a := sa) hown' hstr'.1 hstr'.2
    (g := { method := m, pc := pc + 4, locals := ls, stack := .ref T.heap.size :: .ref T.heap.size :: rest, locked := none }) rfl d4' _ hsteps
/-- 'throw new E("text")', the text by a wide index -/
theorem vx_throwSW {cc : ByteArray} {pc : Nat} (hexec : p.tables.exec = Jvm.exec) (hb : c.code = cc) (hl : l.stackTraces = false) {own cls text : String} {names : List String} {ik is ic mc ms sa : Nat} {A : Nat → Prop}
    (hown : s.vm.findClass own = some m.cls) (hcls : Bundle.fit cls = true) (hnames : ∀ n ∈ names, Bundle.fit n = true)
    (hk : (Cond.classLink own ik cls).before args s = true) (hini : (Cond.initialized cls).before args s = true) (hstr : vk_R own is text sa s) (hat : ∀ w ∈ vx_atS own ic cls names, w.before args s = true)
    (hgood : ∀ w ∈ Cond.classLink own ik cls :: Cond.initialized cls :: vx_atS own ic cls names, vx_ot w = true)
    (hU : vx_Zq Bundle.tN "UNASSIGNED_STACK" Bundle.steD A s s.heap) (hN : vx_Zq Bundle.tN "SUPPRESSED_SENTINEL" Bundle.listD A s s.heap) (hS : va_S A s.heap H locs) (hsize : ls.size = c.maxLocals)
    (d0 : decode cc pc = .ok (.new ik, 3)) (d3 : decode cc (pc + 3) = .ok (.dup, 1)) (d4 : decode cc (pc + 4) = .ok (.ldc_w is, 3)) (d7 : decode cc (pc + 7) = .ok (.invokespecial ic, 3)) (d10 : decode cc (pc + 10) = .ok (.athrow, 1))
    (hout : ∀ x ∈ c.exceptionTable.toList, covers x (pc + 10) = false)
    (hRframes : names.length + 3 < R.frames) (hRlocals : (rest.map fun v => v.category).sum + (13 * (names.length + 1) + 43) ≤ R.locals) (hRcells : cells + 1 ≤ R.cells) (hRslots : slots + 6 ≤ R.slots) (hlocks : meth.locks = false)
    (hx : ∀ t : State, s.vm.Alike t.vm → H.size ≤ t.heap.size → (∀ q : Nat, q < H.size → t.heap[q]? = H[q]?) → XC cls s t)
    (hf : ∀ z ∈ locs, free z.base) (hc : cells + 1 ≤ mc) (hs : slots + 6 ≤ ms) :
    W p l e R s m args below meth c H locs cells slots (vx_MQ below Qc XC args s mc ms free) (F0 m pc ls rest) := by
  intro T hT X
  have htr : e.platform.stackTraces = false := (show e.platform.stackTraces = l.stackTraces by rw [X.admits.platform]).trans hl
  have Y := vx_rebase X (R' := { frames := R.frames, locals := R.locals, cells := 1, slots := 6 }) (Nat.le_refl _) (Nat.le_refl _) hRcells hRslots
  obtain ⟨s', hA⟩ : ∃ z, z = (T.setVm s.vm).setFrames (.invoking m args :: below) := ⟨_, rfl⟩
  rw [← hA] at Y
  have hvm : s'.vm = s.vm := by rw [hA]; rfl
  have hhp : s'.heap = H := by rw [hA]; exact hT
  have hW0 : s.WarmedH s'.vm := by rw [hvm]; exact State.WarmedH.refl s
  have hat' : ∀ w ∈ vx_atS own ic cls names, w.before args s' = true := fun w hw => vx_ot_at hW0 hvm.symm (hgood w (List.mem_cons_of_mem _ (List.mem_cons_of_mem _ hw))) (hat w hw)
  have hk' : (Cond.classLink own ik cls).before args s' = true := vx_ot_at hW0 hvm.symm (hgood _ List.mem_cons_self) hk
  have hini' : (Cond.initialized cls).before args s' = true := vx_ot_at hW0 hvm.symm (hgood _ (List.mem_cons_of_mem _ List.mem_cons_self)) hini
  have hU' : vx_Zq Bundle.tN "UNASSIGNED_STACK" Bundle.steD A s' s'.heap := by rw [hhp]; exact vx_Zq.moved hW0.alike (hU.kept hS.2.1)
  have hN' : vx_Zq Bundle.tN "SUPPRESSED_SENTINEL" Bundle.listD A s' s'.heap := by rw [hhp]; exact vx_Zq.moved hW0.alike (hN.kept hS.2.1)
  have h : ∀ w ∈ Bundle.ownAtoms own ic cls names, w.before args s' = true := vx_own hat' (vx_isRefq hU'.1) (vx_isRefq hN'.1) hU'.2.word hN'.2.word
  have hown' : s'.vm.findClass own = some m.cls := by rw [hvm]; exact hown
  have hins : (Cond.instantiable cls 6).before args s' = true := h _ (by simp [Bundle.ownAtoms])
  obtain ⟨vm₁, cX, kX, hfX, hkX, -, -, X₁, st1⟩ := Y.newCold hexec (own := own) (C := cls) (index := ik) (n := 6) hown' hk' hins hini'
    (g := F0 m pc ls rest) rfl (by rw [hb]; exact d0) (Nat.le_refl _) (Nat.le_refl _)
  generalize hT1 : (T.setVm vm₁).pushCell { cls := cX, slots := kX.instanceTypes.map defaultValue, vm := .none } = T1 at X₁ st1
  have hcat : (Value.ref T.heap.size).category = 1 := rfl
  have hcellA : T1.heap[T.heap.size]? = some (freshCell cX kX) := by rw [← hT1]; exact State.heap_pushCell_size _ _
  have d3' : decode c.code (pc + 3) = .ok (.dup, 1) := by rw [hb]; exact d3
  have d4' : decode c.code (pc + 4) = .ok (.ldc_w is, 3) := by rw [hb]; exact d4
  have hstr' : vk_R own is text sa s' := vk_R.warm hW0 hstr
  obtain ⟨U, hsteps, hrun, hend, hW, hsame, ce, hce, hO⟩ := X₁.ctorThrowS hexec htr (own := own) (cls := cls) (names := names) (ic := ic) hown' hcls hnames h (fun x hx => nomatch hx) hfX hkX hcellA (by rw [hhp, hT]; exact Nat.le_refl _) (msg := .ref sa) rfl
    (g := { method := m, pc := pc + 7, locals := ls, stack := .ref sa :: .ref T.heap.size :: .ref T.heap.size :: rest, locked := none }) rfl hsize rfl rfl (rest := rest) rfl
    (by rw [hb]; exact d7) (by rw [hb]; exact d10) hout hRframes (by simp only [List.map_cons, List.sum_cons, hcat]; omega) hlocks
  obtain ⟨f1, f2⟩ := vx_frame hsame
  rw [hhp] at f1 f2
  have hWs : s.WarmedH U.vm := State.WarmedH.trans hW0 hW
  have hcl : s.vm.findClass cls = some ce.cls := by
    have h9 := hO.cls
    rw [hvm] at h9
    exact h9
  have hall : s.sameButNew ({ U with vm := s.vm } : State) locs mc ms := by
    subst hA
    obtain ⟨e1, e2⟩ := hsame
    rw [State.setFrames_setFrames] at e1
    have h2 : (T.setVm s.vm).sameButNew ({ U with vm := s.vm } : State) [] (0 + 1) (0 + 6) := ⟨e1, e2⟩
    have h3 := X.same.trans h2
    rw [List.append_nil] at h3
    exact h3.mono hc hs
  refine ⟨U, ?_, .threw T.heap.size, hrun, hend, Or.inr ⟨T.heap.size, rfl, cls, ce, locs, hx U hWs.alike f1 (fun q hq => f2 q hq (fun z hz => nomatch hz)), hce, hO.vm, hcl, hWs, hall, hf⟩⟩
  refine st1 _ ?_
  show Steps p.tables e below (T1.setTop { method := m, pc := pc + 3, locals := ls, stack := .ref T.heap.size :: rest, locked := none }) _
  jvm_step X₁.here [X₁.here.top, hexec, d3', Value.category]
  exact X₁.ldcStringW hexec (own := own) (text := text) (index := is) (a := sa) hown' hstr'.1 hstr'.2
    (g := { method := m, pc := pc + 4, locals := ls, stack := .ref T.heap.size :: .ref T.heap.size :: rest, locked := none }) rfl d4' _ hsteps
end Ends
section Bodies
variable {l : Launch}
theorem vx_ofW {y : MethodName} {ws ws' : List Cond} {rm : Room} {Pc : Array Value → State → Prop} {Qc : Array Value → State → Outcome → State → Prop} {XC : String → State → State → Prop} {mc ms : Nat} {free : Addr → Prop} {cc : ByteArray} {maxL : Nat} {ret : Option FieldType}
    (hy : plainName y.cls = true) (hw : ws = Cond.code y cc maxL ret :: ws')
    (body : ∀ p e s m args below meth c s₁, BodyLoose p l y (headSpec ws rm) cc maxL ret e s m args below meth c s₁ → c.maxLocals = maxL → (∀ x ∈ c.exceptionTable.toList, False) → Pc args s →
      W p l e (headSpec ws rm).room s m args below meth c s.heap [] 0 0 (vx_MQ below Qc XC args s mc ms free) (entryFrame m args maxL)) : vx_Met l y ws rm Pc Qc XC mc ms free := by
  refine MetFree.of_bodyS (code := cc) (maxLocals := maxL) (ret := ret) hy ?_ ?_
  · intro args s m h hn
    obtain ⟨meth, c, h1, h2, h3, h4, h5, h6, -, -⟩ := Cond.code_spec hn (atoms_spec (ws := ws) h _ (by rw [hw]; exact List.mem_cons_self))
    exact ⟨meth, c, h1, h2, h3, h4, h5, h6⟩
  · intro p e s m args below meth c s₁ B hml hP _
    have hh0 : s₁.heap = s.heap := by rw [B.state]; rfl
    have ht : ∀ x ∈ c.exceptionTable.toList, False := by
      obtain ⟨meth9, c9, h1, h2, -, -, -, -, h7, -⟩ := Cond.code_spec B.named (atoms_spec (ws := ws) B.pre _ (by rw [hw]; exact List.mem_cons_self))
      cases Option.some.inj (h1.symm.trans B.method)
      cases Option.some.inj (h2.symm.trans (Stand.of_body B).code)
      intro x hx
      rw [Array.isEmpty_iff.mp h7] at hx
      cases hx
    obtain ⟨t, a1, o, b1, b2, b3⟩ := body p e s m args below meth c s₁ B hml ht hP s₁ hh0 (Stand.of_body B)
    exact ⟨t, o, a1, b1, b2, b3⟩
/-- the table of a body with handlers -/
theorem vx_table {p : Program} {x y : MethodName} {S : Spec} {cc bytes : ByteArray} {maxL maxL' : Nat} {ret ret' : Option FieldType} {e : Env} {s s₁ : State} {m : MethodId} {args : Array Value} {below : List Frame} {meth : Method} {c : Code} {hh : List (Nat × Nat × Nat × Nat)}
    (B : BodyLoose p l y S cc maxL ret e s m args below meth c s₁) (h : (Cond.codeWith y bytes maxL' ret' hh).before args s = true) : c.exceptionTable.toList = tableOf hh := by
  obtain ⟨m9, meth9, c9, hn9, h1, h2, -, -, h6, -⟩ := Cond.codeWith_spec h
  cases Option.some.inj (hn9.symm.trans B.named)
  cases Option.some.inj (h1.symm.trans B.method)
  cases Option.some.inj (h2.symm.trans (Stand.of_body B).code)
  rw [← h6, table_eq]
end Bodies
end VXA
/-! ===== END ===== -/
/-! ===== BEGIN a static call of a method with an exception table ===== -/
section VXS
variable {p : Program} {l : Launch} {e : Env} {R : Room} {s : State} {m : MethodId} {args : Array Value} {below : List Frame} {meth : Method} {c : Code} {T : State} {H : Heap} {locs : List Loc} {cells slots : Nat}
abbrev vx_CSW (R : Room) (s : State) (args : Array Value) (own : String) (index : Nat) (y : MethodName) (bytes : ByteArray) (maxL : Nat) (ret : Option FieldType) (hh : List (Nat × Nat × Nat × Nat)) (ws : List Cond) (rm : Room) (mc ms n : Nat) : Prop :=
  (rm.cells = mc ∧ rm.slots = ms ∧ rm.frames + 1 ≤ R.frames ∧ 8 + (maxL + 11) + rm.locals ≤ R.locals ∧ (∀ w ∈ ws, ∀ (a' : Array Value) (U : State), s.WarmedH U.vm → w.before a' U = true) ∧ Cond.codeWith y bytes maxL ret hh ∈ ws) ∧
  (Cond.codeWith y bytes maxL ret hh).before args s = true ∧ (Cond.initialized y.cls).before args s = true ∧ (y.cls ≠ "java/lang/invoke/MethodHandle" ∧ y.cls ≠ "java/lang/invoke/VarHandle") ∧
  (∀ sig, parseMethodDescriptor y.desc = some sig → n = sig.parameters.length) ∧ (Cond.methodLink own index y).before args s = true ∧ (Cond.static y).before args s = true
theorem vx_cwSW {own : String} {index maxL mc ms : Nat} {y : MethodName} {bytes : ByteArray} {ret : Option FieldType} {hh : List (Nat × Nat × Nat × Nat)} {Ts ws ws' : List Cond} {rm : Room} (n : Nat) (ht : ∀ w ∈ Ts, w.before args s = true) (hT : GoodIn Ts (va_wsS own index y ws)) (hw : ws = Cond.codeWith y bytes maxL ret hh :: ws') (hrc : rm.cells = mc) (hrs : rm.slots = ms)
    (hd : y.cls ≠ "java/lang/invoke/MethodHandle" ∧ y.cls ≠ "java/lang/invoke/VarHandle" ∧ (parseMethodDescriptor y.desc).map (fun d => d.parameters.length) = some n) (hR : rm.frames + 1 ≤ R.frames ∧ 8 + (maxL + 11) + rm.locals ≤ R.locals) :
    vx_CSW R s args own index y bytes maxL ret hh ws rm mc ms n := by
  have ok : ∀ w ∈ va_wsS own index y ws, w.before args s = true := fun w h => ht w (hT w h).1
  have hG : GoodIn Ts ws := fun w h => hT w (by unfold va_wsS; exact List.mem_append_right _ h)
  have hc : Cond.codeWith y bytes maxL ret hh ∈ ws := by rw [hw]; exact List.mem_cons_self
  refine ⟨⟨hrc, hrs, hR.1, hR.2, pay_in ht hG, hc⟩, ht _ (hG _ hc).1, ok _ (by simp [va_wsS]), ⟨hd.1, hd.2.1⟩, fun sig h => ?_, ok _ (by simp [va_wsS]), ok _ (by simp [va_wsS])⟩
  have h2 := hd.2.2
  rw [h] at h2
  exact (Option.some.inj h2).symm
theorem vx_callSW (X : Stand p l e R s m args below meth c T locs cells slots) (hexec : p.tables.exec = Jvm.exec) {own : String} {index : Nat} {y : MethodName} {bytes : ByteArray} {maxL : Nat} {ret : Option FieldType} {hh : List (Nat × Nat × Nat × Nat)}
    (hown : s.vm.findClass own = some m.cls) (hlink : (Cond.methodLink own index y).before args s = true) (hstat : (Cond.static y).before args s = true) (hinit : (Cond.initialized y.cls).before args s = true)
    (hcode : (Cond.codeWith y bytes maxL ret hh).before args s = true) (hy : y.cls ≠ "java/lang/invoke/MethodHandle" ∧ y.cls ≠ "java/lang/invoke/VarHandle")
    {W9 : Nat} {Pre : Pt → Array Value → Prop} {Post : Pt → Array Value → Option Value → Pt → Prop} (hK : Back l R p e below s args y 3 W9 Pre Post)
    {g : JFrame} (hg : g.method = m) (hsize : g.locals.size = c.maxLocals) {argsL rest : List Value} (hlen : ∀ sig, parseMethodDescriptor y.desc = some sig → argsL.length = sig.parameters.length)
    (hstack : g.stack = argsL.reverse ++ rest) (hW : 2 * g.monitorRoom + (rest.map fun v => v.category).sum ≤ W9) (hdg : decode c.code g.pc = .ok (.invokestatic index, 3))
    (hpre : ∀ vm₁, s.WarmedH vm₁ → Pre ⟨T.setVm vm₁, locs, cells, slots⟩ argsL.toArray) :
    ∃ (v : Option Value) (vm₁ : Vm) (B : Pt), s.WarmedH vm₁ ∧ Stand p l e R s m args below meth c B.U B.locs B.cells B.slots ∧ Post ⟨T.setVm vm₁, locs, cells, slots⟩ argsL.toArray v B ∧
      ∀ target, Steps p.tables e below (B.U.setTop { g with pc := g.pc + 3, stack := v.toList ++ rest }) target → Steps p.tables e below (T.setTop g) target := by
  obtain ⟨mk, methM, cM, hnamed, hmethM, -, -, -, -, -, -, hsigM⟩ := Cond.codeWith_spec hcode
  have hstatic : methM.isStatic = true := Cond.static_spec hnamed hmethM hstat
  obtain ⟨kP, hkP, -⟩ := className_of_methodNamed hnamed
  have hinitP : kP.init = .initialized := Cond.initialized_spec (findClass_of_methodNamed hnamed) hkP hinit
  obtain ⟨vm₁, X₁, hstep₁⟩ := X.invokestatic hexec hown hlink hnamed hmethM hstatic hkP hinitP hy (g := g) hg (argsL := argsL) (rest := rest) (hlen _ hsigM) hstack hdg
  obtain ⟨v, B, X', hpost, hsteps⟩ := hK m meth c ⟨T.setVm vm₁, locs, cells, slots⟩ { g with stack := rest } (.invokestatic index) mk argsL.toArray X₁ hg hsize hdg hW (X₁.named hnamed) (hpre vm₁ X₁.warmed)
  exact ⟨v, vm₁, B, X₁.warmed, X', hpost, fun target h => hstep₁ _ fun acts => by rw [doInvoke_state]; exact hsteps.trans h⟩
theorem vx_runSW {y : MethodName} {bytes cc : ByteArray} {maxL nL mc ms n index : Nat} {ret : Option FieldType} {hh : List (Nat × Nat × Nat × Nat)} {ws : List Cond} {rm : Room} {Pc : Array Value → State → Prop} {Qc : Array Value → State → Outcome → State → Prop} {free : Addr → Prop} {Ts : List Cond} {own : String} {As rest : List Value} {g : JFrame}
    (S : CallFix p m c cc nL s args Ts own) (hM : Met l y ws rm Pc Qc mc ms free) (cw : vx_CSW R s args own index y bytes maxL ret hh ws rm mc ms n) (hp : PreS s H Pc As)
    (hg : g.method = m) (hn : As.length = n) (hsize : g.locals.size = nL) (hstack : g.stack = As.reverse ++ rest) (hW : 2 * g.monitorRoom + (rest.map fun v => v.category).sum ≤ 8) (hdg : decode cc g.pc = .ok (.invokestatic index, 3)) (hf : cells + mc ≤ R.cells ∧ slots + ms ≤ R.slots) :
    va_Run p l e R s m args below meth c H locs cells slots mc ms g rest (Qc As.toArray) (free) := by
  obtain ⟨⟨hrc, hrs, hfr, hlo, hws, hcw⟩, hcode, hini, hy, hlen, hl, hstt⟩ := cw
  have hK : Back l R p e below s args y 3 8 (PreOf R mc ms Pc) (PostOf Qc mc ms free) := va_backW (hh := hh) (bytes := bytes) (maxL := maxL) (ret := ret) hM hp.1 hrc hrs hfr hlo hws hcw (fun a' U hW => word_at hW (Or.inl (by first | rfl | simp [Cond.onTables, Cond.keeps, Cond.steady])) hini)
  obtain ⟨hx, hb, hml, ho, -⟩ := S
  intro T hT X
  obtain ⟨v, vm₁, ⟨U', l2, c2, s2⟩, hW₁, X', ⟨g', mk, t, L, e1, e2, hq, h1, hL, h2, h3⟩, st⟩ := vx_callSW X hx (hh := hh) (bytes := bytes) (maxL := maxL) (ret := ret) ho hl hstt hini hcode hy hK hg (hsize.trans hml.symm) (argsL := As) (rest := rest) (fun sig h => hn.trans (hlen sig h)) hstack hW (by rw [hb]; exact hdg)
    (fun vm₁ hW₁ => ⟨hf.1, hf.2, hp.2 (T.setVm vm₁) hT hW₁⟩)
  dsimp only [Pt.U, Pt.locs, Pt.cells, Pt.slots] at X' e1 e2 h1 h2 h3 st
  subst h1; subst h2; subst h3
  exact ⟨v, (T.setVm vm₁).calling g' mk As.toArray, t, U', L, hT, X', hL, e1, e2, hq, st⟩
/-- not caught here, past rows that name other classes: it goes on to the caller -/
theorem vx_outP {p : Program} {l : Launch} {e : Env} {R : Room} {s : State} {m : MethodId} {args : Array Value} {below : List Frame} {meth : Method} {c : Code} {H : Heap} {locs : List Loc} {cells slots : Nat} {free : Addr → Prop} {ls : Array Slot} {rest : List Value} {Qc : Array Value → State → Outcome → State → Prop} {XC : String → State → State → Prop}
    {pc : Nat} {own E : String} {ce : Cell} {q : Addr} {mc ms : Nat} (hown : s.vm.findClass own = some m.cls) (hlocks : meth.locks = false)
    (hpass : ∀ z ∈ c.exceptionTable.toList, covers z pc = false ∨ (z.catchType ≠ 0 ∧ ∃ nm : String, (Cond.classLink own z.catchType nm).before args s = true ∧ va_Nc E nm s)) (hcell : H[q]? = some ce) (hv : ce.vm = .none) (hcl : s.vm.findClass E = some ce.cls)
    (hx : ∀ t : State, t.heap = H → s.vm.Alike t.vm → XC E s t) (hf : ∀ z ∈ locs, free z.base) (hc : cells ≤ mc) (hs : slots ≤ ms) :
    vx_W p l e R s m args below meth c H locs cells slots (vx_MQ below Qc XC args s mc ms free) (F0 m pc ls rest) q := by
  intro T hT X
  have hpl : e.platform.magicAccessors = ({} : Platform).magicAccessors := by rw [X.admits.platform]
  obtain ⟨vm', hW', X', st⟩ := X.outThrough hlocks q (g := F0 m pc ls rest) rfl rfl rfl (cell := ce) (by rw [hT]; exact hcell) (by rw [hv]; rfl)
    (by obtain ⟨k9, h9, -⟩ := Vm.findClass_spec hcl; exact ⟨k9, h9⟩) (fun z hz => by
      rcases hpass z hz with h | ⟨hz0, nm, hl1, hn1⟩
      · exact Or.inl h
      · obtain ⟨c6, hc6, hcl6⟩ := Cond.classLink_spec hown hl1 e.platform hpl
        obtain ⟨a8, b8, h1, h2, h3⟩ := hn1
        cases Option.some.inj (h1.symm.trans hcl)
        cases Option.some.inj (h2.symm.trans hc6)
        exact Or.inr ⟨hz0, _, hcl6, h3⟩)
  obtain ⟨g₀, hfr⟩ := X'.frames_eq
  have hcell9 : ((T.setVm vm').setFrames (.throwing q :: below)).heap[q]? = some ce := by
    show T.heap[q]? = some ce
    rw [hT]; exact hcell
  have hend : Ended ((T.setVm vm').setFrames (.throwing q :: below)) below (.threw q) := State.frames_setFrames _ (State.cur_lt_of_frames hfr)
  refine ⟨(T.setVm vm').setFrames (.throwing q :: below), ?_, .threw q, X'.here.running, hend, Or.inr ⟨q, rfl, E, ce, locs, hx _ hT (X'.ends _).1.alike, hcell9, hv, hcl, (X'.ends _).1, (X'.ends _).2.mono hc hs, hf⟩⟩
  rw [X.pushThrowing_eq]
  exact st
/-- a thing of a world lies in the heap -/
theorem vx_lt {D : va_G} {cl : List vw_C} {ws : va_W} {H1 : Heap} (h : va_P D cl ws H1) {k : Nat} {q : Nat × va_E} (hk : ws[k]? = some q) : q.1 < H1.size := (h k q hk).lt
end VXS
/-! ===== END ===== -/
/-! ===== BEGIN methods with a table of their own: called by a name, returning or throwing ===== -/
section VXH
/-! vx_backW, vx_callVX, vx_callSX, vx_callVW, vx_runVW, vx_runVX, vx_runSX, vx_ofWH follow the same proofs as their sisters above (Free/Laws.lean, Shelf42/LK1.lean); vx_outP calls Shelf42/NT130.lean (outThrough). -/
section
variable {l : Launch} {R : Room} {p : Program} {e : Env} {below : List Frame} {s : State} {sargs : Array Value} {y : MethodName} {len W9 : Nat}
theorem vx_backW {ws : List Cond} {rm : Room} {Pc : Array Value → State → Prop} {Qc : Array Value → State → Outcome → State → Prop} {XC : String → State → State → Prop} {mc ms : Nat} {free : Addr → Prop} {bytes : ByteArray} {maxL : Nat} {ret : Option FieldType} {hh : List (Nat × Nat × Nat × Nat)}
    (hM : vx_Met l y ws rm Pc Qc XC mc ms free) (hblind : FrameBlind Pc) (hrc : rm.cells = mc) (hrs : rm.slots = ms)
    (hframes : rm.frames + 1 ≤ R.frames) (hlocals : W9 + (maxL + 11) + rm.locals ≤ R.locals)
    (hws : ∀ w ∈ ws, ∀ a' U, s.WarmedH U.vm → w.before a' U = true) (hcode : Cond.codeWith y bytes maxL ret hh ∈ ws) (hinit : ∀ a' U, s.WarmedH U.vm → (Cond.initialized y.cls).before a' U = true) :
    vx_Back l R p e below s sargs y len W9 (PreOf R mc ms Pc) (PostOf Qc mc ms free) (vx_Post XC mc ms free) := by
  intro m meth c A g ig mk a X hg hsize hdg hW hn hp
  have h1 : (headSpec ws rm).pre.before a A.U = true := atoms_intro fun w hw => hws w hw _ _ X.warmed
  have h2 : (Cond.codeWith y bytes maxL ret hh).before a A.U = true := hws _ hcode _ _ X.warmed
  have h3 : (Cond.initialized y.cls).before a A.U = true := hinit _ _ X.warmed
  have h4 : A.cells + (headSpec ws rm).room.cells ≤ R.cells := by rw [show (headSpec ws rm).room.cells = mc from hrc]; exact hp.1
  have h5 : A.slots + (headSpec ws rm).room.slots ≤ R.slots := by rw [show (headSpec ws rm).room.slots = ms from hrs]; exact hp.2.1
  have hPc : Pc a (A.U.calling g mk a) := hblind _ _ _ _ hp.2.2
  obtain ⟨U, Ls, c0, s0⟩ := A
  dsimp only [Pt.U, Pt.locs, Pt.cells, Pt.slots] at h1 h2 h3 h4 h5 X hn hPc ⊢
  obtain ⟨m9, methY, cY, hn9, hmY, hcY, -, hlY, -⟩ := Cond.codeWith_spec h2
  cases Option.some.inj (hn9.symm.trans hn)
  obtain ⟨kY, hkY, -⟩ := className_of_methodNamed hn
  have hinitY : kY.init = .initialized := Cond.initialized_spec (findClass_of_methodNamed hn) hkY h3
  have h : At U g.method c below := by rw [hg]; exact X.here
  have hlocals9 : W9 + (maxL + 11) + (headSpec ws rm).room.locals ≤ R.locals := hlocals
  have happ : (headSpec ws rm).appliesLoose y e.platform (U.calling g mk a) = true :=
    Spec.appliesLoose_calling (g := g) h hdg hn hkY hinitY
      (X.room_calling (g := g) (R' := (headSpec ws rm).room) hsize hmY hcY hframes (by rw [hlY]; omega) h4 h5) h1
  obtain ⟨mid, hmid⟩ := h.above
  have hfr : (U.setTop g).frames = (.java g :: mid) ++ below := by rw [State.frames_setTop' g h.top, hmid]; rfl
  obtain ⟨o, s₂, hsteps, -, hend, hq⟩ := Steps.callFree hM p X.admits X.cas X.clock (acts := []) hfr happ hPc trivial
  have hq' : vx_Q Qc XC mc ms free a (U.calling g mk a) o s₂ := hq
  rw [State.frames_setTop' g h.top] at hend
  obtain ⟨g₀, hg0⟩ := Option.isSome_iff_exists.mp h.top
  obtain ⟨r, hr⟩ := State.topJava?_eq_some.mp hg0
  have hr' : (({ U with heap := s₂.heap, slotsUsed := s₂.slotsUsed } : State).setVm s₂.vm).frames = .java g₀ :: r := hr
  rcases hq' with ⟨hqc, L, hfe, hL⟩ | ⟨q, rfl, E, ce, L, hx, hce, hcv, hcl, hW₂, hsm, hL⟩
  · obtain ⟨⟨v, rfl⟩, hW₂, e2, q2, q3, q4, q5, q6⟩ := id hfe
    have e3 : s₂ = ({ (U.calling g mk a).setFrames s₂.frames with heap := s₂.heap, slotsUsed := s₂.slotsUsed } : State).setVm s₂.vm := by
      have : s₂ = ({ s₂ with vm := (U.calling g mk a).vm } : State).setVm s₂.vm := rfl
      rw [e2] at this
      exact this
    obtain ⟨c₂, i₂, len₂, hc₂, hd₂, hf₂⟩ := hend
    have hW' : U.WarmedH s₂.vm := hW₂
    have hcc : c₂ = c := by
      have h1 : s₂.code? g.method = U.code? g.method := by
        rw [State.code?_eq, State.code?_eq, hW'.alike.method?]
      exact Option.some.inj (hc₂.symm.trans (h1.trans h.code))
    subst hcc
    have hlen : len₂ = len := by rw [hdg] at hd₂; cases hd₂; rfl
    subst hlen
    have hs₂ : s₂ = (({ U with heap := s₂.heap, slotsUsed := s₂.slotsUsed } : State).setVm s₂.vm).setTop { g with pc := g.pc + len₂, stack := v.toList ++ g.stack } := by
      refine e3.trans ?_
      rw [hf₂, State.calling_eq h.top, State.setFrames_setFrames, State.setTop_of_frames _ hr', hr]
      rfl
    have hsame : U.sameButNew ({ U with heap := s₂.heap, slotsUsed := s₂.slotsUsed } : State) L mc ms := by
      refine ⟨?_, q2, q3, q4, q5, q6⟩
      obtain ⟨t, ht, -⟩ := State.frames_cons hr
      show ({ U with heap := s₂.heap, slotsUsed := s₂.slotsUsed } : State) = { U.setFrames U.frames with heap := s₂.heap, slotsUsed := s₂.slotsUsed }
      rw [State.setFrames_self ht]
    subst hg
    refine Or.inl ⟨v, ⟨(({ U with heap := s₂.heap, slotsUsed := s₂.slotsUsed } : State).setVm s₂.vm), Ls ++ L, c0 + mc, s0 + ms⟩,
      ⟨X.admits, X.cas, X.clock, X.frames, X.room, X.hears, X.method, X.code, (X.here.setHeapUsed s₂.heap s₂.slotsUsed).setVm hW'.alike, X.tail, State.WarmedH.trans X.warmed hW', X.limits, X.bytes, X.same.trans (hsame.setVm s.vm)⟩,
      ⟨g, mk, s₂, L, rfl, rfl, hqc, rfl, hL, rfl, rfl⟩, ?_⟩
    show Steps p.tables e below _ ((({ U with heap := s₂.heap, slotsUsed := s₂.slotsUsed } : State).setVm s₂.vm).setTop { g with pc := g.pc + len₂, stack := v.toList ++ g.stack })
    rw [← hs₂]
    exact hsteps
  · obtain ⟨e2, q2, q3, q4, q5, q6⟩ := id hsm
    have e3 : s₂ = ({ (U.calling g mk a).setFrames s₂.frames with heap := s₂.heap, slotsUsed := s₂.slotsUsed } : State).setVm s₂.vm := by
      have : s₂ = ({ s₂ with vm := (U.calling g mk a).vm } : State).setVm s₂.vm := rfl
      rw [e2] at this
      exact this
    have hf₂ : s₂.frames = .throwing q :: .java g :: U.frames.tail := hend
    have hW' : U.WarmedH s₂.vm := hW₂
    have hs₂ : s₂ = ((({ U with heap := s₂.heap, slotsUsed := s₂.slotsUsed } : State).setVm s₂.vm).setTop g).pushFrame (.throwing q) := by
      refine e3.trans ?_
      rw [hf₂, State.calling_eq h.top, State.setFrames_setFrames, State.pushFrame, State.frames_setTop _ hr', State.setTop_of_frames _ hr', State.setFrames_setFrames, hr]
      rfl
    have hsame : U.sameButNew ({ U with heap := s₂.heap, slotsUsed := s₂.slotsUsed } : State) L mc ms := by
      refine ⟨?_, q2, q3, q4, q5, q6⟩
      obtain ⟨t, ht, -⟩ := State.frames_cons hr
      show ({ U with heap := s₂.heap, slotsUsed := s₂.slotsUsed } : State) = { U.setFrames U.frames with heap := s₂.heap, slotsUsed := s₂.slotsUsed }
      rw [State.setFrames_self ht]
    subst hg
    refine Or.inr ⟨q, ⟨(({ U with heap := s₂.heap, slotsUsed := s₂.slotsUsed } : State).setVm s₂.vm), Ls ++ L, c0 + mc, s0 + ms⟩,
      ⟨X.admits, X.cas, X.clock, X.frames, X.room, X.hears, X.method, X.code, (X.here.setHeapUsed s₂.heap s₂.slotsUsed).setVm hW'.alike, X.tail, State.WarmedH.trans X.warmed hW', X.limits, X.bytes, X.same.trans (hsame.setVm s.vm)⟩,
      ⟨g, mk, s₂, L, E, ce, rfl, rfl, hx, hce, hcv, hcl, rfl, hL, rfl, rfl⟩, ?_⟩
    show Steps p.tables e below _ (((({ U with heap := s₂.heap, slotsUsed := s₂.slotsUsed } : State).setVm s₂.vm).setTop g).pushFrame (.throwing q))
    rw [← hs₂]
    exact hsteps
end
variable {p : Program} {l : Launch} {e : Env} {R : Room} {s : State} {m : MethodId} {args : Array Value} {below : List Frame} {meth : Method} {c : Code} {T : State} {H : Heap} {locs : List Loc} {cells slots : Nat}
theorem vx_callVX (X : Stand p l e R s m args below meth c T locs cells slots) (hexec : p.tables.exec = Jvm.exec) {own C : String} {index : Nat} {y : MethodName} {bytes : ByteArray} {maxL : Nat} {ret : Option FieldType} {hh : List (Nat × Nat × Nat × Nat)}
    (hown : s.vm.findClass own = some m.cls) (hlink : (Cond.methodLink own index y).before args s = true) (hinst : (Cond.instanceMethod y).before args s = true) (hsel : (Cond.selects C y y).before args s = true)
    (hcode : (Cond.codeWith y bytes maxL ret hh).before args s = true) (hy : y.cls ≠ "java/lang/invoke/MethodHandle" ∧ y.cls ≠ "java/lang/invoke/VarHandle")
    {W9 : Nat} {Pre : Pt → Array Value → Prop} {Post : Pt → Array Value → Option Value → Pt → Prop} {PostX : Pt → Array Value → Addr → Pt → Prop} (hK : vx_Back l R p e below s args y 3 W9 Pre Post PostX)
    {b : Addr} {cellB : Cell} (hcell : T.heap[b]? = some cellB) (hobj : cellB.vm.isStatics = false) (hcls : s.vm.findClass C = some cellB.cls)
    {g : JFrame} (hg : g.method = m) (hsize : g.locals.size = c.maxLocals) {argsL rest : List Value} (hlen : ∀ sig, parseMethodDescriptor y.desc = some sig → argsL.length = sig.parameters.length)
    (hstack : g.stack = argsL.reverse ++ .ref b :: rest) (hW : 2 * g.monitorRoom + (rest.map fun v => v.category).sum ≤ W9) (hdg : decode c.code g.pc = .ok (.invokevirtual index, 3))
    (hpre : ∀ vm₁, s.WarmedH vm₁ → Pre ⟨T.setVm vm₁, locs, cells, slots⟩ (Value.ref b :: argsL).toArray) :
    (∃ (v : Option Value) (vm₁ : Vm) (B : Pt), s.WarmedH vm₁ ∧ Stand p l e R s m args below meth c B.U B.locs B.cells B.slots ∧ Post ⟨T.setVm vm₁, locs, cells, slots⟩ (Value.ref b :: argsL).toArray v B ∧
      ∀ target, Steps p.tables e below (B.U.setTop { g with pc := g.pc + 3, stack := v.toList ++ rest }) target → Steps p.tables e below (T.setTop g) target) ∨
    (∃ (q : Addr) (vm₁ : Vm) (B : Pt), s.WarmedH vm₁ ∧ Stand p l e R s m args below meth c B.U B.locs B.cells B.slots ∧ PostX ⟨T.setVm vm₁, locs, cells, slots⟩ (Value.ref b :: argsL).toArray q B ∧
      Steps p.tables e below (T.setTop g) ((B.U.setTop { g with stack := rest }).pushFrame (.throwing q))) := by
  obtain ⟨mk, methM, hnamed, hmethM, hstM, habM⟩ := Cond.instanceMethod_spec hinst
  obtain ⟨m8, methM', cM, hn8, hmethM', -, -, -, -, -, -, hsigM⟩ := Cond.codeWith_spec hcode
  cases Option.some.inj (hn8.symm.trans hnamed)
  cases hmethM.symm.trans hmethM'
  obtain ⟨c2, r2, m2, q1, q2, q3, q4, kP, hkP, hkPi⟩ := Cond.selects_spec hsel
  cases hcls.symm.trans q1
  cases (State.methodFound?_of_named hnamed hy).symm.trans q2
  cases hnamed.symm.trans q3
  have hselP : selectMethod e.platform s.vm cellB.cls mk = .method mk := by rw [Launch.admits_selectMethod X.admits]; exact q4
  obtain ⟨vm₁, X₁, hstep₁⟩ := X.invokevirtual hexec hown hlink hnamed hmethM hstM hkP hkPi hy (a := b) (cell := cellB) hcell
    (fun z h => by rw [h] at hobj; cases hobj) hselP hmethM habM hkP hkPi (g := g) hg (argsL := argsL) (rest := rest) (hlen _ hsigM) hstack hdg
  rcases hK m meth c ⟨T.setVm vm₁, locs, cells, slots⟩ { g with stack := rest } (.invokevirtual index) mk (Value.ref b :: argsL).toArray X₁ hg hsize hdg hW (X₁.named hnamed) (hpre vm₁ X₁.warmed) with ⟨v, B, X', hpost, hsteps⟩ | ⟨q, B, X', hpost, hsteps⟩
  · exact Or.inl ⟨v, vm₁, B, X₁.warmed, X', hpost, fun target h => hstep₁ _ fun acts => by rw [doInvoke_state]; exact hsteps.trans h⟩
  · exact Or.inr ⟨q, vm₁, B, X₁.warmed, X', hpost, hstep₁ _ fun acts => by rw [doInvoke_state]; exact hsteps⟩
theorem vx_callSX (X : Stand p l e R s m args below meth c T locs cells slots) (hexec : p.tables.exec = Jvm.exec) {own : String} {index : Nat} {y : MethodName} {bytes : ByteArray} {maxL : Nat} {ret : Option FieldType} {hh : List (Nat × Nat × Nat × Nat)}
    (hown : s.vm.findClass own = some m.cls) (hlink : (Cond.methodLink own index y).before args s = true) (hstat : (Cond.static y).before args s = true) (hinit : (Cond.initialized y.cls).before args s = true)
    (hcode : (Cond.codeWith y bytes maxL ret hh).before args s = true) (hy : y.cls ≠ "java/lang/invoke/MethodHandle" ∧ y.cls ≠ "java/lang/invoke/VarHandle")
    {W9 : Nat} {Pre : Pt → Array Value → Prop} {Post : Pt → Array Value → Option Value → Pt → Prop} {PostX : Pt → Array Value → Addr → Pt → Prop} (hK : vx_Back l R p e below s args y 3 W9 Pre Post PostX)
    {g : JFrame} (hg : g.method = m) (hsize : g.locals.size = c.maxLocals) {argsL rest : List Value} (hlen : ∀ sig, parseMethodDescriptor y.desc = some sig → argsL.length = sig.parameters.length)
    (hstack : g.stack = argsL.reverse ++ rest) (hW : 2 * g.monitorRoom + (rest.map fun v => v.category).sum ≤ W9) (hdg : decode c.code g.pc = .ok (.invokestatic index, 3))
    (hpre : ∀ vm₁, s.WarmedH vm₁ → Pre ⟨T.setVm vm₁, locs, cells, slots⟩ argsL.toArray) :
    (∃ (v : Option Value) (vm₁ : Vm) (B : Pt), s.WarmedH vm₁ ∧ Stand p l e R s m args below meth c B.U B.locs B.cells B.slots ∧ Post ⟨T.setVm vm₁, locs, cells, slots⟩ argsL.toArray v B ∧
      ∀ target, Steps p.tables e below (B.U.setTop { g with pc := g.pc + 3, stack := v.toList ++ rest }) target → Steps p.tables e below (T.setTop g) target) ∨
    (∃ (q : Addr) (vm₁ : Vm) (B : Pt), s.WarmedH vm₁ ∧ Stand p l e R s m args below meth c B.U B.locs B.cells B.slots ∧ PostX ⟨T.setVm vm₁, locs, cells, slots⟩ argsL.toArray q B ∧
      Steps p.tables e below (T.setTop g) ((B.U.setTop { g with stack := rest }).pushFrame (.throwing q))) := by
  obtain ⟨mk, methM, cM, hnamed, hmethM, -, -, -, -, -, -, hsigM⟩ := Cond.codeWith_spec hcode
  have hstatic : methM.isStatic = true := Cond.static_spec hnamed hmethM hstat
  obtain ⟨kP, hkP, -⟩ := className_of_methodNamed hnamed
  have hinitP : kP.init = .initialized := Cond.initialized_spec (findClass_of_methodNamed hnamed) hkP hinit
  obtain ⟨vm₁, X₁, hstep₁⟩ := X.invokestatic hexec hown hlink hnamed hmethM hstatic hkP hinitP hy (g := g) hg (argsL := argsL) (rest := rest) (hlen _ hsigM) hstack hdg
  rcases hK m meth c ⟨T.setVm vm₁, locs, cells, slots⟩ { g with stack := rest } (.invokestatic index) mk argsL.toArray X₁ hg hsize hdg hW (X₁.named hnamed) (hpre vm₁ X₁.warmed) with ⟨v, B, X', hpost, hsteps⟩ | ⟨q, B, X', hpost, hsteps⟩
  · exact Or.inl ⟨v, vm₁, B, X₁.warmed, X', hpost, fun target h => hstep₁ _ fun acts => by rw [doInvoke_state]; exact hsteps.trans h⟩
  · exact Or.inr ⟨q, vm₁, B, X₁.warmed, X', hpost, hstep₁ _ fun acts => by rw [doInvoke_state]; exact hsteps⟩
theorem vx_callVW (X : Stand p l e R s m args below meth c T locs cells slots) (hexec : p.tables.exec = Jvm.exec) {own C : String} {index : Nat} {y : MethodName} {bytes : ByteArray} {maxL : Nat} {ret : Option FieldType} {hh : List (Nat × Nat × Nat × Nat)}
    (hown : s.vm.findClass own = some m.cls) (hlink : (Cond.methodLink own index y).before args s = true) (hinst : (Cond.instanceMethod y).before args s = true) (hsel : (Cond.selects C y y).before args s = true)
    (hcode : (Cond.codeWith y bytes maxL ret hh).before args s = true) (hy : y.cls ≠ "java/lang/invoke/MethodHandle" ∧ y.cls ≠ "java/lang/invoke/VarHandle")
    {W9 : Nat} {Pre : Pt → Array Value → Prop} {Post : Pt → Array Value → Option Value → Pt → Prop} (hK : Back l R p e below s args y 3 W9 Pre Post)
    {b : Addr} {cellB : Cell} (hcell : T.heap[b]? = some cellB) (hobj : cellB.vm.isStatics = false) (hcls : s.vm.findClass C = some cellB.cls)
    {g : JFrame} (hg : g.method = m) (hsize : g.locals.size = c.maxLocals) {argsL rest : List Value} (hlen : ∀ sig, parseMethodDescriptor y.desc = some sig → argsL.length = sig.parameters.length)
    (hstack : g.stack = argsL.reverse ++ .ref b :: rest) (hW : 2 * g.monitorRoom + (rest.map fun v => v.category).sum ≤ W9) (hdg : decode c.code g.pc = .ok (.invokevirtual index, 3))
    (hpre : ∀ vm₁, s.WarmedH vm₁ → Pre ⟨T.setVm vm₁, locs, cells, slots⟩ (Value.ref b :: argsL).toArray) :
    ∃ (v : Option Value) (vm₁ : Vm) (B : Pt), s.WarmedH vm₁ ∧ Stand p l e R s m args below meth c B.U B.locs B.cells B.slots ∧ Post ⟨T.setVm vm₁, locs, cells, slots⟩ (Value.ref b :: argsL).toArray v B ∧
      ∀ target, Steps p.tables e below (B.U.setTop { g with pc := g.pc + 3, stack := v.toList ++ rest }) target → Steps p.tables e below (T.setTop g) target := by
  obtain ⟨mk, methM, hnamed, hmethM, hstM, habM⟩ := Cond.instanceMethod_spec hinst
  obtain ⟨m8, methM', cM, hn8, hmethM', -, -, -, -, -, -, hsigM⟩ := Cond.codeWith_spec hcode
  cases Option.some.inj (hn8.symm.trans hnamed)
  cases hmethM.symm.trans hmethM'
  obtain ⟨c2, r2, m2, q1, q2, q3, q4, kP, hkP, hkPi⟩ := Cond.selects_spec hsel
  cases hcls.symm.trans q1
  cases (State.methodFound?_of_named hnamed hy).symm.trans q2
  cases hnamed.symm.trans q3
  have hselP : selectMethod e.platform s.vm cellB.cls mk = .method mk := by rw [Launch.admits_selectMethod X.admits]; exact q4
  obtain ⟨vm₁, X₁, hstep₁⟩ := X.invokevirtual hexec hown hlink hnamed hmethM hstM hkP hkPi hy (a := b) (cell := cellB) hcell
    (fun z h => by rw [h] at hobj; cases hobj) hselP hmethM habM hkP hkPi (g := g) hg (argsL := argsL) (rest := rest) (hlen _ hsigM) hstack hdg
  obtain ⟨v, B, X', hpost, hsteps⟩ := hK m meth c ⟨T.setVm vm₁, locs, cells, slots⟩ { g with stack := rest } (.invokevirtual index) mk (Value.ref b :: argsL).toArray X₁ hg hsize hdg hW (X₁.named hnamed) (hpre vm₁ X₁.warmed)
  exact ⟨v, vm₁, B, X₁.warmed, X', hpost, fun target h => hstep₁ _ fun acts => by rw [doInvoke_state]; exact hsteps.trans h⟩
abbrev vx_CVW (R : Room) (s : State) (args : Array Value) (own C : String) (index : Nat) (y : MethodName) (bytes : ByteArray) (maxL : Nat) (ret : Option FieldType) (hh : List (Nat × Nat × Nat × Nat)) (ws : List Cond) (rm : Room) (mc ms n : Nat) : Prop :=
  (rm.cells = mc ∧ rm.slots = ms ∧ rm.frames + 1 ≤ R.frames ∧ 8 + (maxL + 11) + rm.locals ≤ R.locals ∧ (∀ w ∈ ws, ∀ (a' : Array Value) (U : State), s.WarmedH U.vm → w.before a' U = true) ∧ Cond.codeWith y bytes maxL ret hh ∈ ws) ∧
  (Cond.codeWith y bytes maxL ret hh).before args s = true ∧ (Cond.initialized y.cls).before args s = true ∧ (y.cls ≠ "java/lang/invoke/MethodHandle" ∧ y.cls ≠ "java/lang/invoke/VarHandle") ∧
  (∀ sig, parseMethodDescriptor y.desc = some sig → n = sig.parameters.length) ∧ (Cond.methodLink own index y).before args s = true ∧ (Cond.instanceMethod y).before args s = true ∧ (Cond.selects C y y).before args s = true
theorem vx_cwVW {own C : String} {index maxL mc ms : Nat} {y : MethodName} {bytes : ByteArray} {ret : Option FieldType} {hh : List (Nat × Nat × Nat × Nat)} {Ts ws ws' : List Cond} {rm : Room} (n : Nat) (ht : ∀ w ∈ Ts, w.before args s = true) (hT : GoodIn Ts (wsV own index C y ws)) (hw : ws = Cond.codeWith y bytes maxL ret hh :: ws') (hrc : rm.cells = mc) (hrs : rm.slots = ms)
    (hd : y.cls = C ∧ y.cls ≠ "java/lang/invoke/MethodHandle" ∧ y.cls ≠ "java/lang/invoke/VarHandle" ∧ (parseMethodDescriptor y.desc).map (fun d => d.parameters.length) = some n) (hR : rm.frames + 1 ≤ R.frames ∧ 8 + (maxL + 11) + rm.locals ≤ R.locals) :
    vx_CVW R s args own C index y bytes maxL ret hh ws rm mc ms n := by
  obtain ⟨hC, hd⟩ := hd
  subst hC
  have ok : ∀ w ∈ wsV own index y.cls y ws, w.before args s = true := fun w h => ht w (hT w h).1
  have hG : GoodIn Ts ws := fun w h => hT w (by unfold wsV; exact List.mem_append_right _ h)
  have hc : Cond.codeWith y bytes maxL ret hh ∈ ws := by rw [hw]; exact List.mem_cons_self
  refine ⟨⟨hrc, hrs, hR.1, hR.2, pay_in ht hG, hc⟩, ht _ (hG _ hc).1, ok _ (by simp [wsV]), ⟨hd.1, hd.2.1⟩, fun sig h => ?_, ok _ (by simp [wsV]), ok _ (by simp [wsV]), ok _ (by simp [wsV])⟩
  have h2 := hd.2.2
  rw [h] at h2
  exact (Option.some.inj h2).symm
theorem vx_runVW {y : MethodName} {bytes cc : ByteArray} {maxL nL mc ms n index : Nat} {ret : Option FieldType} {hh : List (Nat × Nat × Nat × Nat)} {ws : List Cond} {rm : Room} {Pc : Array Value → State → Prop} {Qc : Array Value → State → Outcome → State → Prop} {free : Addr → Prop} {Ts : List Cond} {own C : String} {b : Addr} {As rest : List Value} {g : JFrame}
    (S : CallFix p m c cc nL s args Ts own) (hM : Met l y ws rm Pc Qc mc ms free) (cw : vx_CVW R s args own C index y bytes maxL ret hh ws rm mc ms n) (hp : PreV s H C b Pc As)
    (hg : g.method = m) (hn : As.length = n) (hsize : g.locals.size = nL) (hstack : g.stack = As.reverse ++ .ref b :: rest) (hW : 2 * g.monitorRoom + (rest.map fun v => v.category).sum ≤ 8) (hdg : decode cc g.pc = .ok (.invokevirtual index, 3)) (hf : cells + mc ≤ R.cells ∧ slots + ms ≤ R.slots) :
    va_Run p l e R s m args below meth c H locs cells slots mc ms g rest (Qc (Value.ref b :: As).toArray) free := by
  obtain ⟨⟨hrc, hrs, hfr, hlo, hws, hcw⟩, hcode, hini, hy, hlen, hl, hin, hse⟩ := cw
  have hK : Back l R p e below s args y 3 8 (PreOf R mc ms Pc) (PostOf Qc mc ms free) := va_backW (hh := hh) (bytes := bytes) (maxL := maxL) (ret := ret) hM hp.1 hrc hrs hfr hlo hws hcw (fun a' U hW => word_at hW (Or.inl (by first | rfl | simp [Cond.onTables, Cond.keeps, Cond.steady])) hini)
  obtain ⟨hx, hb, hml, ho, -⟩ := S
  obtain ⟨-, ⟨cellB, hcB, hoB, hclB⟩, hPc⟩ := hp
  intro T hT X
  obtain ⟨v, vm₁, ⟨U', l2, c2, s2⟩, hW₁, X', ⟨g', mk, t, L, e1, e2, hq, h1, hL, h2, h3⟩, st⟩ := vx_callVW X hx (C := C) (hh := hh) (bytes := bytes) (maxL := maxL) (ret := ret) ho hl hin hse hcode hy hK (by rw [hT]; exact hcB) hoB hclB hg (hsize.trans hml.symm) (argsL := As) (rest := rest) (fun sig h => hn.trans (hlen sig h)) hstack hW (by rw [hb]; exact hdg)
    (fun vm₁ hW₁ => ⟨hf.1, hf.2, hPc (T.setVm vm₁) hT hW₁⟩)
  dsimp only [Pt.U, Pt.locs, Pt.cells, Pt.slots] at X' e1 e2 h1 h2 h3 st
  subst h1; subst h2; subst h3
  exact ⟨v, (T.setVm vm₁).calling g' mk (Value.ref b :: As).toArray, t, U', L, hT, X', hL, e1, e2, hq, st⟩
section
variable {y : MethodName} {bytes cc : ByteArray} {maxL nL mc ms n index : Nat} {ret : Option FieldType} {ws : List Cond} {rm : Room} {Pc : Array Value → State → Prop} {Qc : Array Value → State → Outcome → State → Prop} {XC : String → State → State → Prop} {free : Addr → Prop} {Ts : List Cond} {own C : String} {b : Addr} {As rest : List Value} {g : JFrame}
theorem vx_runVX {hh : List (Nat × Nat × Nat × Nat)} (S : CallFix p m c cc nL s args Ts own) (hM : vx_Met l y ws rm Pc Qc XC mc ms free) (cw : vx_CVW R s args own C index y bytes maxL ret hh ws rm mc ms n) (hp : PreV s H C b Pc As)
    (hg : g.method = m) (hn : As.length = n) (hsize : g.locals.size = nL) (hstack : g.stack = As.reverse ++ .ref b :: rest) (hW : 2 * g.monitorRoom + (rest.map fun v => v.category).sum ≤ 8) (hdg : decode cc g.pc = .ok (.invokevirtual index, 3)) (hf : cells + mc ≤ R.cells ∧ slots + ms ≤ R.slots) :
    vx_Run p l e R s m args below meth c H locs cells slots mc ms g rest (Qc (Value.ref b :: As).toArray) XC free := by
  obtain ⟨⟨hrc, hrs, hfr, hlo, hws, hcw⟩, hcode, hini, hy, hlen, hl, hin, hse⟩ := cw
  have hK : vx_Back l R p e below s args y 3 8 (PreOf R mc ms Pc) (PostOf Qc mc ms free) (vx_Post XC mc ms free) := vx_backW (hh := hh) (bytes := bytes) (maxL := maxL) (ret := ret) hM hp.1 hrc hrs hfr hlo hws hcw (fun a' U hW => word_at hW (Or.inl (by first | rfl | simp [Cond.onTables, Cond.keeps, Cond.steady])) hini)
  obtain ⟨hx, hb, hml, ho, -⟩ := S
  obtain ⟨-, ⟨cellB, hcB, hoB, hclB⟩, hPc⟩ := hp
  intro T hT X
  rcases vx_callVX X hx (C := C) (hh := hh) (bytes := bytes) (maxL := maxL) (ret := ret) ho hl hin hse hcode hy hK (by rw [hT]; exact hcB) hoB hclB hg (hsize.trans hml.symm) (argsL := As) (rest := rest) (fun sig h => hn.trans (hlen sig h)) hstack hW (by rw [hb]; exact hdg)
    (fun vm₁ hW₁ => ⟨hf.1, hf.2, hPc (T.setVm vm₁) hT hW₁⟩) with ⟨v, vm₁, ⟨U', l2, c2, s2⟩, hW₁, X', ⟨g', mk, t, L, e1, e2, hq, h1, hL, h2, h3⟩, st⟩ | ⟨q, vm₁, ⟨U', l2, c2, s2⟩, hW₁, X', ⟨g', mk, t, L, E, ce, e1, e2, hq, hce, hcv, hcl, h1, hL, h2, h3⟩, st⟩
  · dsimp only [Pt.U, Pt.locs, Pt.cells, Pt.slots] at X' e1 e2 h1 h2 h3 st
    subst h1; subst h2; subst h3
    exact Or.inl ⟨v, (T.setVm vm₁).calling g' mk (Value.ref b :: As).toArray, t, U', L, hT, X', hL, e1, e2, hq, st⟩
  · dsimp only [Pt.U, Pt.locs, Pt.cells, Pt.slots] at X' e1 e2 h1 h2 h3 st hcl
    subst h1; subst h2; subst h3
    exact Or.inr ⟨q, (T.setVm vm₁).calling g' mk (Value.ref b :: As).toArray, t, U', L, E, ce, hT, X', hL, e1, e2, hq, hce, hcv, vx_cls hW₁ hcl, st⟩
theorem vx_runSX {hh : List (Nat × Nat × Nat × Nat)} (S : CallFix p m c cc nL s args Ts own) (hM : vx_Met l y ws rm Pc Qc XC mc ms free) (cw : vx_CSW R s args own index y bytes maxL ret hh ws rm mc ms n) (hp : PreS s H Pc As)
    (hg : g.method = m) (hn : As.length = n) (hsize : g.locals.size = nL) (hstack : g.stack = As.reverse ++ rest) (hW : 2 * g.monitorRoom + (rest.map fun v => v.category).sum ≤ 8) (hdg : decode cc g.pc = .ok (.invokestatic index, 3)) (hf : cells + mc ≤ R.cells ∧ slots + ms ≤ R.slots) :
    vx_Run p l e R s m args below meth c H locs cells slots mc ms g rest (Qc As.toArray) XC free := by
  obtain ⟨⟨hrc, hrs, hfr, hlo, hws, hcw⟩, hcode, hini, hy, hlen, hl, hstt⟩ := cw
  have hK : vx_Back l R p e below s args y 3 8 (PreOf R mc ms Pc) (PostOf Qc mc ms free) (vx_Post XC mc ms free) := vx_backW (hh := hh) (bytes := bytes) (maxL := maxL) (ret := ret) hM hp.1 hrc hrs hfr hlo hws hcw (fun a' U hW => word_at hW (Or.inl (by first | rfl | simp [Cond.onTables, Cond.keeps, Cond.steady])) hini)
  obtain ⟨hx, hb, hml, ho, -⟩ := S
  intro T hT X
  rcases vx_callSX X hx (hh := hh) (bytes := bytes) (maxL := maxL) (ret := ret) ho hl hstt hini hcode hy hK hg (hsize.trans hml.symm) (argsL := As) (rest := rest) (fun sig h => hn.trans (hlen sig h)) hstack hW (by rw [hb]; exact hdg)
    (fun vm₁ hW₁ => ⟨hf.1, hf.2, hp.2 (T.setVm vm₁) hT hW₁⟩) with ⟨v, vm₁, ⟨U', l2, c2, s2⟩, hW₁, X', ⟨g', mk, t, L, e1, e2, hq, h1, hL, h2, h3⟩, st⟩ | ⟨q, vm₁, ⟨U', l2, c2, s2⟩, hW₁, X', ⟨g', mk, t, L, E, ce, e1, e2, hq, hce, hcv, hcl, h1, hL, h2, h3⟩, st⟩
  · dsimp only [Pt.U, Pt.locs, Pt.cells, Pt.slots] at X' e1 e2 h1 h2 h3 st
    subst h1; subst h2; subst h3
    exact Or.inl ⟨v, (T.setVm vm₁).calling g' mk As.toArray, t, U', L, hT, X', hL, e1, e2, hq, st⟩
  · dsimp only [Pt.U, Pt.locs, Pt.cells, Pt.slots] at X' e1 e2 h1 h2 h3 st hcl
    subst h1; subst h2; subst h3
    exact Or.inr ⟨q, (T.setVm vm₁).calling g' mk As.toArray, t, U', L, E, ce, hT, X', hL, e1, e2, hq, hce, hcv, vx_cls hW₁ hcl, st⟩
end
end VXH
theorem vx_ofWH {l : Launch} {y : MethodName} {ws ws' : List Cond} {rm : Room} {Pc : Array Value → State → Prop} {Qc : Array Value → State → Outcome → State → Prop} {XC : String → State → State → Prop} {mc ms : Nat} {free : Addr → Prop} {cc : ByteArray} {maxL : Nat} {ret : Option FieldType} {hh : List (Nat × Nat × Nat × Nat)}
    (hy : plainName y.cls = true) (hw : ws = Cond.codeWith y cc maxL ret hh :: ws')
    (body : ∀ p e s m args below meth c s₁, BodyLoose p l y (headSpec ws rm) cc maxL ret e s m args below meth c s₁ → c.maxLocals = maxL → Pc args s →
      W p l e (headSpec ws rm).room s m args below meth c s.heap [] 0 0 (vx_MQ below Qc XC args s mc ms free) (entryFrame m args maxL)) : vx_Met l y ws rm Pc Qc XC mc ms free := by
  refine MetFree.of_bodyS (code := cc) (maxLocals := maxL) (ret := ret) hy ?_ ?_
  · intro args s m h hn
    obtain ⟨m9, meth, c, hn9, h1, h2, h3, h4, -, h5, h6, -⟩ := Cond.codeWith_spec (atoms_spec (ws := ws) h _ (by rw [hw]; exact List.mem_cons_self))
    cases hn.symm.trans hn9
    exact ⟨meth, c, h1, h2, h3, h4, h5, h6⟩
  · intro p e s m args below meth c s₁ B hml hP _
    have hh0 : s₁.heap = s.heap := by rw [B.state]; rfl
    obtain ⟨t, a1, o, b1, b2, b3⟩ := body p e s m args below meth c s₁ B hml hP s₁ hh0 (Stand.of_body B)
    exact ⟨t, o, a1, b1, b2, b3⟩
/-! ===== END ===== -/

/-! ===== BEGIN what the machine throws by itself, no traces kept ===== -/
section VXM
set_option maxHeartbeats 1000000 in
/-- the machine throws cls with the message text, no traces kept: from its note over the frame g to 'throwing' over the same frame (follows the proofs of Stand.vmThrowsMessage, Shelf/KitTracedVmS.lean, and Stand.throwsMessageColdBareV, StandMessageColdV.lean, without the step out of the frame) -/
theorem vx_vmAt {p : Program} {l : Launch} {e : Env} {R : Room} {s : State} {m₀ : MethodId} {args : Array Value} {below : List Frame} {meth : Method} {c : Code} {W : State} {locs : List Loc} {cells slots : Nat}
    (X : Stand p l e R s m₀ args below meth c W locs cells slots) (hexec : p.tables.exec = Jvm.exec) (htr : e.platform.stackTraces = false) {cls : String} {names : List String} {text : String}
    (hcls : Bundle.fit cls = true) (hnames : ∀ n ∈ names, Bundle.fit n = true) (hsoe : (cls == "java/lang/StackOverflowError") = false) (hoom : (cls == "java/lang/OutOfMemoryError") = false)
    (h : ∀ a ∈ Bundle.messageArmAtoms cls names, a.before args s = true)
    (hlocs : ∀ x ∈ locs, ∀ cell, s.heap[x.base]? = some cell → cell.vm.isStatics = false)
    (htext : (text == notModelled) = false) (hlimit : ¬ (stringBytes (stringToUtf16 text)).size > e.platform.arrayLengthLimit) (hheap : ¬ (stringBytes (stringToUtf16 text)).size * componentBytes .byte > e.platform.maxHeapBytes)
    {g : JFrame} (hg : g.method = m₀) (hsize : g.locals.size = c.maxLocals)
    (hRframes : names.length + 4 < R.frames) (hRlocals : 2 * g.monitorRoom + (g.stack.map fun v => v.category).sum + 10240 ≤ R.locals) (hshort : 13 * names.length + 55 ≤ 10240)
    (hRcells : cells + 3 ≤ R.cells) (hRslots : slots + ((stringBytes (stringToUtf16 text)).size + 4 + 6) ≤ R.slots) (hlocks : meth.locks = false) :
    ∃ (S : State) (q : Addr) (ce : Cell), (∀ target, Steps p.tables e below ((S.setTop g).pushFrame (.throwing q)) target → Steps p.tables e below ((W.setTop g).pushFrame (.throwNew cls (some text) none)) target) ∧
      Stand p l e R s m₀ args below meth c S locs (cells + 3) (slots + ((stringBytes (stringToUtf16 text)).size + 4 + 6)) ∧ S.heap[q]? = some ce ∧ s.vm.findClass cls = some ce.cls ∧ ce.vm = .none := by
  have howns : e.platform.frameOwnsMonitors = true := by rw [X.admits.platform]
  have hfin : e.platform.finalization = false := by rw [X.admits.platform]
  have hpl : e.platform.magicAccessors = ({} : Platform).magicAccessors := by rw [X.admits.platform]
  have a : ∀ x, x ∈ Bundle.messageArmAtoms cls names → x.holds args s none s [] = true := fun x hx => h x hx
  obtain ⟨T, Z0, L, -, Y⟩ := ThrowableC.of_atoms (args := args) howns hfin hpl (fun x hx => h x (by simp [Bundle.messageArmAtoms, hx]))
  obtain ⟨Z, M, LZ, LM, hnZ⟩ := Init0T.ofS_atoms (args := args) hpl L Y (fun x hx => h x (by simp [Bundle.messageArmAtoms, hx]))
  obtain ⟨P1, Ps, hlen, L1, hL, hP1m, hlink1, hlink⟩ := Bundle.chainS (args := args) hpl hnZ names cls hcls hnames (fun x hx => h x (by simp [Bundle.messageArmAtoms, hx]))
  obtain ⟨Zs, LZs, hn4, hfitv, hfitc⟩ := StringT.of_atoms (args := args) (fun x hx => h x (by simp [Bundle.messageArmAtoms, hx]))
  have hfound : s.vm.findClass cls = some P1.m.cls := findClass_of_methodNamed hP1m
  obtain ⟨c1, kX, hc1, hk, hord, -, -, hn6⟩ := Cond.instantiable_spec (a (.instantiable cls 6) (by simp [Bundle.messageArmAtoms]))
  cases Option.some.inj (hc1.symm.trans hfound)
  have hinit := Cond.initialized_spec hfound hk (a (.initialized cls) (by simp [Bundle.messageArmAtoms]))
  have hctor : kX.findMethod "<init>" "(Ljava/lang/String;)V" = some P1.m.idx := findMethod_of_methodNamed hP1m hk
  have hsel0 : selectMethod e.platform s.vm P1.m.cls T.fill0 = .method T.fill0 := by
    obtain ⟨c2, r2, m2, q1, q2, q3, q4, -⟩ := Cond.selects_spec (a (.selects cls Bundle.tFill0 Bundle.tFill0) (by simp [Bundle.messageArmAtoms]))
    cases Option.some.inj (q1.symm.trans hfound)
    cases Option.some.inj (q2.symm.trans (State.methodFound?_of_named Y.fill0 (by decide)))
    cases Option.some.inj (q3.symm.trans Y.fill0)
    rw [Launch.admits_selectMethod X.admits]; exact q4
  have hselF : selectMethod e.platform s.vm P1.m.cls T.fill = .method T.fill := by
    obtain ⟨c2, r2, m2, q1, q2, q3, q4, -⟩ := Cond.selects_spec (a (.selects cls Bundle.tFill Bundle.tFill) (by simp [Bundle.messageArmAtoms]))
    cases Option.some.inj (q1.symm.trans hfound)
    cases Option.some.inj (q2.symm.trans (State.methodFound?_of_named Y.fill (by decide)))
    cases Option.some.inj (q3.symm.trans Y.fill)
    rw [Launch.admits_selectMethod X.admits]; exact q4
  obtain ⟨cellS0, hcS0, hiss⟩ := Y.statics
  obtain ⟨u0, hu0⟩ := Cond.staticRefV Y.unassigned L.unassignedStatic L.statics hcS0 hiss (a (.isRef (.static Bundle.tN "UNASSIGNED_STACK" Bundle.steD)) (by simp [Bundle.messageArmAtoms]))
  obtain ⟨sen, hsen⟩ := Cond.staticRefV Y.sentinel L.sentinelStatic L.statics hcS0 hiss (a (.isRef (.static Bundle.tN "SUPPRESSED_SENTINEL" Bundle.listD)) (by simp [Bundle.messageArmAtoms]))
  obtain ⟨ci198, i198, fB, hk198, hg198, ha198, hsB, -, hnB, htB, hffB⟩ := Cond.ownField (t := .object "java/lang/Object") Y.found L.cls (by decide +kernel) (a (.fieldLink Bundle.tN 198 Bundle.tN "backtrace" "Ljava/lang/Object;") (by simp [Bundle.messageArmAtoms])) (a (.lays Bundle.tN Bundle.tN "backtrace" "Ljava/lang/Object;") (by simp [Bundle.messageArmAtoms])) e.platform hpl
  obtain ⟨cellS, hcS', heS, -, hkeep⟩ := X.same.2.2.2.2.2 T.aS cellS0 hcS0
  have hcellS : W.heap[T.aS]? = some cellS := hcS'
  have hout' : ∀ i, (⟨T.aS, i⟩ : Loc) ∉ locs := fun i hmem => by
    have := hlocs _ hmem cellS0 hcS0
    rw [hiss] at this; cases this
  have hknownS : cellS.vm ≠ .unknown := by
    rw [heS]; intro hu
    rw [show cellS0.vm = .unknown from hu] at hiss
    cases hiss
  have hvU : cellS.slots[T.fUnassigned.slot]? = some u0.v := by rw [hkeep _ (hout' _)]; exact hu0
  have hvSen : cellS.slots[T.fSentinel.slot]? = some sen.v := by rw [hkeep _ (hout' _)]; exact hsen
  obtain ⟨iM, hffM⟩ := Y.msg
  obtain ⟨tyC, dC, hdC, hdnC⟩ := Cond.laysAt hfound hk Y.cause (a (.lays cls Bundle.tN "cause" "Ljava/lang/Throwable;") (by simp [Bundle.messageArmAtoms]))
  obtain ⟨tyS, dS, hdS, hdnS⟩ := Cond.laysAt hfound hk Y.stack (a (.lays cls Bundle.tN "stackTrace" Bundle.steD) (by simp [Bundle.messageArmAtoms]))
  obtain ⟨tyP, dP, hdP, hdnP⟩ := Cond.laysAt hfound hk Y.supp (a (.lays cls Bundle.tN "suppressedExceptions" Bundle.listD) (by simp [Bundle.messageArmAtoms]))
  obtain ⟨tyM, dM, hdM, hdnM⟩ := Cond.laysAt hfound hk hffM (a (.lays cls Bundle.tN "detailMessage" "Ljava/lang/String;") (by simp [Bundle.messageArmAtoms]))
  obtain ⟨tyB, dB, hdB, hdnB⟩ := Cond.laysAt hfound hk hffB (a (.lays cls Bundle.tN "backtrace" "Ljava/lang/Object;") (by simp [Bundle.messageArmAtoms]))
  have bC := Cond.laysApart hdB hdC hdnB hdnC (by rw [hnB, Y.causeName]; decide)
  have bS := Cond.laysApart hdB hdS hdnB hdnS (by rw [hnB, Y.stackName]; decide)
  have bP := Cond.laysApart hdB hdP hdnB hdnP (by rw [hnB, Y.suppName]; decide)
  have hbk : ((preparedCellV T.toThrowableT (freshCell P1.m.cls kX) (W.heap.size + 2) u0 sen).withEntry W.cur).slots[fB.slot]? = some .null := by
    have := fresh_default (c := P1.m.cls) tyB
    rw [htB] at this
    simpa [preparedCellV, Cell.setSlot, Cell.withEntry, Array.getElem?_setIfInBounds, bC, bS, bP, bC.symm, bS.symm, bP.symm, defaultValue] using this
  have tkC := Takes.of_laid (v := .ref (W.heap.size + 2)) hk hord tyC (by rw [Y.causeType]; rfl)
  have tkS := Takes.of_laid (v := u0.v) hk hord tyS (by rw [Y.stackType]; exact fits_refV_array _ u0)
  have tkP := Takes.of_laid (v := sen.v) hk hord tyP (by rw [Y.suppType]; exact fits_refV_object _ sen)
  have tkM := Takes.of_laid (v := .ref (W.heap.size + 1)) hk hord tyM (by rw [Y.msgType]; rfl)
  have hskip : SkipFacts T e.platform s (fun u => u) u0 ((preparedCellV T.toThrowableT (freshCell P1.m.cls kX) (W.heap.size + 2) u0 sen).withEntry W.cur) := ⟨{ ci198 := ci198, i198 := i198, fBack := fB }, ⟨hk198, hg198, ha198, hsB⟩, hbk, fun _ _ => rfl⟩
  have h0 : At W g.method c below := by rw [hg]; exact X.here
  obtain ⟨hbeyond, hfreeW⟩ := X.vmMayThrow hsize (.throwNew cls (some text) none) (fun f hf => by cases hf) rfl hRlocals
  have hfr' : W.frames.length + Ps.length + 4 < (e.platform.stackLimits W.me).1 := by have := X.framesAbove hRframes; omega
  have hwd' : (stackUse (.java g :: W.frames.tail)).2 + 13 * Ps.length + 55 ≤ (e.platform.stackLimits W.me).2 := by have := X.stackAbove hsize (K := 13 * Ps.length + 55) (by omega); omega
  have hslots : W.slotsUsed + (stringBytes (stringToUtf16 text)).size + Zs.kS.instanceTypes.size + kX.instanceTypes.size ≤ e.platform.maxSlots := by
    have := X.slotsAbove hRslots
    rw [hn4, hn6]
    omega
  obtain ⟨vm', hW', st⟩ := Steps.vmThrowsMessageColdByV p (s₀ := s) (S := W) (g := g) h0 hexec T L Z LZ M LM X.warmed (t := W.cur) rfl Zs LZs P1 L1 Ps hL hlink1 hlink hsoe hoom hfound hk hinit hord hctor
    (Launch.admits_hotImplicitExceptions X.admits) hbeyond hfreeW htext hlimit hheap (X.cellsAbove hRcells) hslots (hfitv _) (hfitc _)
    (Nn := fun u => u) heapOnly_id (fun _ _ => rfl) (fun _ => rfl) (fun u x y => setCell_twice _ _ _ _) (fun _ => Nat.le_refl _) (cN := ((preparedCellV T.toThrowableT (freshCell P1.m.cls kX) (W.heap.size + 2) u0 sen).withEntry W.cur))
    hsel0 hcellS hknownS hvU tkS (fun _ hu => hu) (fun _ hu => hu) rfl rfl rfl (by simp [preparedCellV, Cell.setSlot, Cell.withEntry]) hskip (fun _ _ hA hW _ hroom _ hrest => L.nativeOff p htr hA hW hroom hrest) hselF hvSen tkC tkP tkM Y.objLocals rfl hfr' hwd'
  rw [plainBareV_eq T.toThrowableT (W.heap.size + 2) u0 sen (.ref (W.heap.size + 1)) W.cur rfl rfl] at st
  obtain ⟨-, -, w3, w4, -, -, -⟩ := withThrown_facts e.platform W Zs text P1.m.cls kX
  have X3 := ((X.pushed (bytesOf Zs.cB (stringToUtf16 text))).pushed (stringAt Zs.cS Zs.kS Zs.fv Zs.fc (stringToUtf16 text) W.heap.size)).pushed (freshCell P1.m.cls kX)
  rw [← withString_eq] at X3
  have X4 := X3.noted hW'
  have ha : (W.heap.size + 2) < ((withThrown W Zs text P1.m.cls kX).setVm vm').heap.size := by show _ < (withThrown W Zs text P1.m.cls kX).heap.size; rw [w3]; omega
  have hcell : ((withThrown W Zs text P1.m.cls kX).setVm vm').heap[(W.heap.size + 2)]? = some (freshCell P1.m.cls kX) := w4
  have X5 := ((((X4.stored hcell T.fCause.slot (.ref (W.heap.size + 2))).storedAgain ha T.fStack.slot u0.v).storedAgain ha T.fSupp.slot sen.v).storedAgain ha T.fStack.slot u0.v).storedAgain ha T.fMsg.slot (.ref (W.heap.size + 1))
  obtain ⟨g₁, hfrM⟩ := X5.frames_eq
  have hU : ((((withThrown W Zs text P1.m.cls kX).setVm vm').setCell (W.heap.size + 2) (plainBareV T.toThrowableT (freshCell P1.m.cls kX) (W.heap.size + 2) u0 sen (.ref (W.heap.size + 1)))).setTop g).pushFrame (.throwing (W.heap.size + 2)) = (((withThrown W Zs text P1.m.cls kX).setVm vm').setCell (W.heap.size + 2) (plainBareV T.toThrowableT (freshCell P1.m.cls kX) (W.heap.size + 2) u0 sen (.ref (W.heap.size + 1)))).setFrames (.throwing (W.heap.size + 2) :: .java g :: below) := by
    rw [State.pushFrame, State.frames_setTop _ hfrM, State.setTop_of_frames _ hfrM, State.setFrames_setFrames]
  have b1 : (bytesOf Zs.cB (stringToUtf16 text)).slots.size = (stringBytes (stringToUtf16 text)).size := by
    rw [(Cell.writeAll_facts _ _).2.2]; simp [bytes0]
  have b2 : (stringAt Zs.cS Zs.kS Zs.fv Zs.fc (stringToUtf16 text) W.heap.size).slots.size = 4 := by simp [string0, Cell.setSlot, hn4]
  have b3 : (freshCell P1.m.cls kX).slots.size = 6 := by simp [hn6]
  rw [b1, b2, b3] at X5
  have e9 : slots + (stringBytes (stringToUtf16 text)).size + 4 + 6 = slots + ((stringBytes (stringToUtf16 text)).size + 4 + 6) := by omega
  rw [e9] at X5
  simp only [List.append_assoc, List.cons_append, List.nil_append] at X5
  refine ⟨((withThrown W Zs text P1.m.cls kX).setVm vm').setCell (W.heap.size + 2) (plainBareV T.toThrowableT (freshCell P1.m.cls kX) (W.heap.size + 2) u0 sen (.ref (W.heap.size + 1))), W.heap.size + 2, _, fun target ht => st _ (by rw [X.tail, ← hU]; exact ht),
    X5.forget (fun y hy => ?_), heapAt_setCell_self _ ha, hfound, rfl⟩
  simp only [List.mem_cons, List.not_mem_nil, or_false] at hy
  have hge : s.heap.size ≤ W.heap.size := X.same.2.1
  rcases hy with rfl | rfl | rfl | rfl | rfl <;> exact Nat.le_trans hge (Nat.le_add_right _ 2)
set_option maxHeartbeats 1000000 in
/-- the machine throws NullPointerException, no traces kept: from its note over the frame g to 'throwing' over the same frame (follows the proof of Stand.vmThrowsNpe, Shelf42/KT2.lean; throwsNpeColdBareVAt, Shelf42/NT91.lean, called) -/
theorem vx_npeAt {p : Program} {l : Launch} {e : Env} {R : Room} {s : State} {m₀ : MethodId} {args : Array Value} {below : List Frame} {meth : Method} {c : Code} {W : State} {locs : List Loc} {cells slots : Nat}
    (X : Stand p l e R s m₀ args below meth c W locs cells slots) (hexec : p.tables.exec = Jvm.exec) (htr : e.platform.stackTraces = false) {n : Nat}
    (h : ∀ a ∈ Bundle.npeArmAtoms n, a.before args s = true)
    (hlocs : ∀ x ∈ locs, ∀ cell, s.heap[x.base]? = some cell → cell.vm.isStatics = false)
    {g : JFrame} (hg : g.method = m₀) (hsize : g.locals.size = c.maxLocals)
    (hRframes : 7 < R.frames) (hRlocals : 2 * g.monitorRoom + (g.stack.map fun v => v.category).sum + 10240 ≤ R.locals)
    (hRcells : cells + 1 ≤ R.cells) (hRslots : slots + n ≤ R.slots) (hlocks : meth.locks = false) :
    ∃ (S : State) (q : Addr) (ce : Cell), (∀ target, Steps p.tables e below ((S.setTop g).pushFrame (.throwing q)) target → Steps p.tables e below ((W.setTop g).pushFrame (.throwNew "java/lang/NullPointerException" none none)) target) ∧
      Stand p l e R s m₀ args below meth c S locs (cells + 1) (slots + n) ∧ S.heap[q]? = some ce ∧ s.vm.findClass "java/lang/NullPointerException" = some ce.cls ∧ ce.vm = .none := by
  have howns : e.platform.frameOwnsMonitors = true := by rw [X.admits.platform]
  have hfin : e.platform.finalization = false := by rw [X.admits.platform]
  have hpl : e.platform.magicAccessors = ({} : Platform).magicAccessors := by rw [X.admits.platform]
  have hpl2 : e.platform.arrayCloneIsPublic = true := by rw [X.admits.platform]
  have a' : ∀ x, x ∈ Bundle.npeArmAtoms n → x.holds args s none s [] = true := fun x hx => h x hx
  obtain ⟨T, Z, L, LZ, Y⟩ := ThrowableC.of_atoms (args := args) howns hfin hpl (fun x hx => h x (by simp [Bundle.npeArmAtoms, hx]))
  obtain ⟨N, LN, hcN, hnNF, hordN, hffS⟩ := NpeC.of_atoms (args := args) hpl hpl2 L Y (fun x hx => h x (by simp [Bundle.npeArmAtoms, hx]))
  obtain ⟨P1, L1, hP1m, hP1s⟩ := PassC.of_atoms (args := args) (s := s) hpl (X := Bundle.nN) (Y := Bundle.rN) (by decide) (by decide) LibCode.NullPointerException.Init0.at_0 LibCode.NullPointerException.Init0.at_1 LibCode.NullPointerException.Init0.at_4 (fun x hx => h x (by simp [Bundle.npeArmAtoms, hx]))
  obtain ⟨PR, LR, hPRm, hPRs⟩ := PassC.of_atoms (args := args) (s := s) hpl (X := Bundle.rN) (Y := Bundle.eN) (by decide) (by decide) LibCode.RuntimeException.Init0.at_0 LibCode.RuntimeException.Init0.at_1 LibCode.RuntimeException.Init0.at_4 (fun x hx => h x (by simp [Bundle.npeArmAtoms, hx]))
  obtain ⟨PE, LEx, hPEm, hPEs⟩ := PassC.of_atoms (args := args) (s := s) hpl (X := Bundle.eN) (Y := Bundle.tN) (by decide) (by decide) LibCode.Exception.Init0.at_0 LibCode.Exception.Init0.at_1 LibCode.Exception.Init0.at_4 (fun x hx => h x (by simp [Bundle.npeArmAtoms, hx]))
  have hfound : s.vm.findClass Bundle.nN = some P1.m.cls := findClass_of_methodNamed hP1m
  have ecls : N.cN = P1.m.cls := Option.some.inj (hcN.symm.trans hfound)
  have hk : s.vm.classes[P1.m.cls]? = some N.kN := by rw [← ecls]; exact LN.cls
  have hinit := Cond.initialized_spec hfound hk (a' (.initialized Bundle.nN) (by simp [Bundle.npeArmAtoms]))
  have hctor : N.kN.findMethod "<init>" "()V" = some P1.m.idx := findMethod_of_methodNamed hP1m hk
  obtain ⟨c1, k1, hc1, hk1, -, -, -, hn⟩ := Cond.instantiable_spec (a' (.instantiable Bundle.nN n) (by simp [Bundle.npeArmAtoms]))
  cases Option.some.inj (hc1.symm.trans hfound)
  cases Option.some.inj (hk1.symm.trans hk)
  have hfsz : (freshCell P1.m.cls N.kN).slots.size = n := by simp [hn]
  have hlink1 : P1.sup = PR.m := Option.some.inj (hP1s.symm.trans hPRm)
  have hlinkR : PR.sup = PE.m := Option.some.inj (hPRs.symm.trans hPEm)
  have hlinkE : PE.sup = Z.m T.toThrowableT := Option.some.inj (hPEs.symm.trans Y.init0)
  have hLs : ∀ P, P ∈ [PR, PE] → P.Links0 e.platform s := fun P hP => by
    simp only [List.mem_cons, List.not_mem_nil, or_false] at hP
    rcases hP with rfl | rfl
    · exact LR
    · exact LEx
  have hsel0 : selectMethod e.platform s.vm P1.m.cls T.fill0 = .method T.fill0 := by
    obtain ⟨c2, r2, m2, q1, q2, q3, q4, -⟩ := Cond.selects_spec (a' (.selects Bundle.nN Bundle.tFill0 Bundle.tFill0) (by simp [Bundle.npeArmAtoms]))
    cases Option.some.inj (q1.symm.trans hfound)
    cases Option.some.inj (q2.symm.trans (State.methodFound?_of_named Y.fill0 (by decide)))
    cases Option.some.inj (q3.symm.trans Y.fill0)
    rw [Launch.admits_selectMethod X.admits]; exact q4
  have hselF : selectMethod e.platform s.vm P1.m.cls T.fill = .method N.fill := by
    obtain ⟨c2, r2, m2, q1, q2, q3, q4, -⟩ := Cond.selects_spec (a' (.selects Bundle.nN Bundle.tFill Bundle.nFill) (by simp [Bundle.npeArmAtoms]))
    cases Option.some.inj (q1.symm.trans hfound)
    cases Option.some.inj (q2.symm.trans (State.methodFound?_of_named Y.fill (by decide)))
    cases Option.some.inj (q3.symm.trans hnNF)
    rw [Launch.admits_selectMethod X.admits]; exact q4
  obtain ⟨cellS0, hcS0, hiss⟩ := Y.statics
  obtain ⟨u0, hu0⟩ := Cond.staticRefV Y.unassigned L.unassignedStatic L.statics hcS0 hiss (a' (.isRef (.static Bundle.tN "UNASSIGNED_STACK" Bundle.steD)) (by simp [Bundle.npeArmAtoms]))
  obtain ⟨sen, hsen⟩ := Cond.staticRefV Y.sentinel L.sentinelStatic L.statics hcS0 hiss (a' (.isRef (.static Bundle.tN "SUPPRESSED_SENTINEL" Bundle.listD)) (by simp [Bundle.npeArmAtoms]))
  obtain ⟨ci198, i198, fB, hk198, hg198, ha198, hsB, -, hnB, htB, hffB⟩ := Cond.ownField (t := .object "java/lang/Object") Y.found L.cls (by decide +kernel) (a' (.fieldLink Bundle.tN 198 Bundle.tN "backtrace" Bundle.objD) (by simp [Bundle.npeArmAtoms])) (a' (.lays Bundle.tN Bundle.tN "backtrace" Bundle.objD) (by simp [Bundle.npeArmAtoms])) e.platform hpl
  obtain ⟨cellS, hcS', heS, -, hkeep⟩ := X.same.2.2.2.2.2 T.aS cellS0 hcS0
  have hcellS : W.heap[T.aS]? = some cellS := hcS'
  have hout' : ∀ i, (⟨T.aS, i⟩ : Loc) ∉ locs := fun i hmem => by
    have := hlocs _ hmem cellS0 hcS0
    rw [hiss] at this; cases this
  have hknownS : cellS.vm ≠ .unknown := by
    rw [heS]; intro hu
    rw [show cellS0.vm = .unknown from hu] at hiss
    cases hiss
  have hvU : cellS.slots[T.fUnassigned.slot]? = some u0.v := by rw [hkeep _ (hout' _)]; exact hu0
  have hvSen : cellS.slots[T.fSentinel.slot]? = some sen.v := by rw [hkeep _ (hout' _)]; exact hsen
  obtain ⟨tyC, dC, hdC, hdnC⟩ := Cond.laysAt hfound hk Y.cause (a' (.lays Bundle.nN Bundle.tN "cause" "Ljava/lang/Throwable;") (by simp [Bundle.npeArmAtoms]))
  obtain ⟨tyS, dS, hdS, hdnS⟩ := Cond.laysAt hfound hk Y.stack (a' (.lays Bundle.nN Bundle.tN "stackTrace" Bundle.steD) (by simp [Bundle.npeArmAtoms]))
  obtain ⟨tyP, dP, hdP, hdnP⟩ := Cond.laysAt hfound hk Y.supp (a' (.lays Bundle.nN Bundle.tN "suppressedExceptions" Bundle.listD) (by simp [Bundle.npeArmAtoms]))
  obtain ⟨tyX, dX, hdX, hdnX⟩ := Cond.laysAt hfound hk hffS (a' (.lays Bundle.nN Bundle.nN "extendedMessageState" "I") (by simp [Bundle.npeArmAtoms, Bundle.npeAtoms]))
  obtain ⟨hnX, htX⟩ := State.fieldFound?_type hffS (t := .int) (by decide +kernel)
  have xC := Cond.laysApart hdC hdX hdnC hdnX (by rw [hnX, Y.causeName]; decide)
  have xS := Cond.laysApart hdS hdX hdnS hdnX (by rw [hnX, Y.stackName]; decide)
  have xP := Cond.laysApart hdP hdX hdnP hdnX (by rw [hnX, Y.suppName]; decide)
  have hv0 : (freshCell P1.m.cls N.kN).slots[N.fState.slot]? = some (.int 0) := by
    have := fresh_default (c := P1.m.cls) tyX
    rw [htX] at this; exact this
  obtain ⟨tyB, dB, hdB, hdnB⟩ := Cond.laysAt hfound hk hffB (a' (.lays Bundle.nN Bundle.tN "backtrace" Bundle.objD) (by simp [Bundle.npeArmAtoms]))
  have bC := Cond.laysApart hdB hdC hdnB hdnC (by rw [hnB, Y.causeName]; decide)
  have bS := Cond.laysApart hdB hdS hdnB hdnS (by rw [hnB, Y.stackName]; decide)
  have bP := Cond.laysApart hdB hdP hdnB hdnP (by rw [hnB, Y.suppName]; decide)
  have bX := Cond.laysApart hdB hdX hdnB hdnX (by rw [hnB, hnX]; decide)
  have hbk : ((npeCell N.toNpeT (preparedCellV T.toThrowableT (freshCell P1.m.cls N.kN) W.heap.size u0 sen) W.cur).withEntry W.cur).slots[fB.slot]? = some .null := by
    have := fresh_default (c := P1.m.cls) tyB
    rw [htB] at this
    simpa [npeCell, preparedCellV, Cell.setSlot, Cell.withEntry, Array.getElem?_setIfInBounds, bC, bS, bP, bX, bC.symm, bS.symm, bP.symm, bX.symm, defaultValue] using this
  have tkC := Takes.of_laid (v := .ref W.heap.size) hk hordN tyC (by rw [Y.causeType]; rfl)
  have tkS := Takes.of_laid (v := u0.v) hk hordN tyS (by rw [Y.stackType]; exact fits_refV_array _ u0)
  have tkP := Takes.of_laid (v := sen.v) hk hordN tyP (by rw [Y.suppType]; exact fits_refV_object _ sen)
  have tkX := Takes.of_laid (v := .int 1) hk hordN tyX (by rw [htX]; rfl)
  have hskip : SkipFacts T e.platform s (fun u => u) u0 ((npeCell N.toNpeT (preparedCellV T.toThrowableT (freshCell P1.m.cls N.kN) W.heap.size u0 sen) W.cur).withEntry W.cur) := ⟨{ ci198 := ci198, i198 := i198, fBack := fB }, ⟨hk198, hg198, ha198, hsB⟩, hbk, fun _ _ => rfl⟩
  obtain ⟨vm', X3, st, -⟩ := X.throwsNpeColdBareVAt hexec hg hsize T L Z LZ N LN P1 L1 [PR, PE] hLs hlink1 ⟨hlinkR, hlinkE, trivial⟩ hfound hk hinit hordN hctor hsel0 hselF hcellS hknownS hvU hvSen
    hv0 xC xS xP tkC tkS tkP tkX Y.objLocals hskip (fun _ _ hA hW _ hroom _ hrest => L.nativeOff p htr hA hW hroom hrest) (by simpa using hRframes) hRlocals (by simp) hRcells (by rw [hn]; exact hRslots)
  have hlt : W.heap.size < ((W.pushCell (freshCell P1.m.cls N.kN)).setVm vm').heap.size := by
    show W.heap.size < (W.pushCell (freshCell P1.m.cls N.kN)).heap.size
    rw [State.heap_size_pushCell]; omega
  rw [hfsz] at X3
  obtain ⟨g₁, hfrM⟩ := X3.frames_eq
  have hU : ((((W.pushCell (freshCell P1.m.cls N.kN)).setVm vm').setCell W.heap.size (npeBareV T.toThrowableT N.toNpeT (freshCell P1.m.cls N.kN) W.heap.size u0 sen)).setTop g).pushFrame (.throwing W.heap.size) = (((W.pushCell (freshCell P1.m.cls N.kN)).setVm vm').setCell W.heap.size (npeBareV T.toThrowableT N.toNpeT (freshCell P1.m.cls N.kN) W.heap.size u0 sen)).setFrames (.throwing W.heap.size :: .java g :: below) := by
    rw [State.pushFrame, State.frames_setTop _ hfrM, State.setTop_of_frames _ hfrM, State.setFrames_setFrames]
  refine ⟨_, W.heap.size, _, fun target ht => st.trans (by rw [← hU]; exact ht), X3.forget (fun y hy => ?_), heapAt_setCell_self _ hlt, hfound, rfl⟩
  simp only [List.mem_cons, List.not_mem_nil, or_false] at hy
  have hge : s.heap.size ≤ W.heap.size := X.same.2.1
  rcases hy with rfl | rfl | rfl | rfl | rfl <;> exact hge
/-- the words of a machine's NullPointerException, but the four that speak of the heap -/
def vx_atN (n : Nat) : List Cond := (Bundle.npeArmAtoms n).filter vx_no
/-- the words of a machine's throw with a message, but the four that speak of the heap -/
def vx_atM (X : String) (names : List String) : List Cond := (Bundle.messageArmAtoms X names).filter vx_no
section
variable {p : Program} {l : Launch} {e : Env} {R : Room} {s : State} {m : MethodId} {args : Array Value} {below : List Frame} {meth : Method} {c : Code} {H : Heap} {locs : List Loc} {cells slots : Nat}
/-- a frame seen from a rebased start, seen from the first start again -/
theorem vx_back9 {T S : State} {R' : Room} {k n : Nat} (X : Stand p l e R s m args below meth c T locs cells slots) (Y : Stand p l e R' ((T.setVm s.vm).setFrames (.invoking m args :: below)) m args below meth c T [] 0 0) (Z : Stand p l e R' ((T.setVm s.vm).setFrames (.invoking m args :: below)) m args below meth c S [] k n) :
    Stand p l e R s m args below meth c S locs (cells + k) (slots + n) := by
  have hW0 : s.WarmedH ((T.setVm s.vm).setFrames (.invoking m args :: below)).vm := State.WarmedH.refl s
  refine { admits := X.admits, cas := X.cas, clock := X.clock, frames := X.frames, room := X.room, hears := X.hears, method := X.method, code := X.code, here := Z.here, tail := Z.tail, warmed := State.WarmedH.trans hW0 Z.warmed, limits := Z.limits.trans (Y.limits.symm.trans X.limits), bytes := Z.bytes.trans (Y.bytes.symm.trans X.bytes), same := ?_ }
  obtain ⟨e1, e2⟩ := Z.same
  rw [State.setFrames_setFrames] at e1
  have h2 : (T.setVm s.vm).sameButNew (S.setVm s.vm) [] k n := ⟨e1, e2⟩
  have h3 := X.same.trans h2
  rw [List.append_nil] at h3
  exact h3
/-- from the machine's note that E is thrown here with this text -/
def vx_Note (p : Program) (l : Launch) (e : Env) (R : Room) (s : State) (m : MethodId) (args : Array Value) (below : List Frame) (meth : Method) (c : Code) (H : Heap) (locs : List Loc) (cells slots : Nat) (Q : State → Prop) (g : JFrame) (E text : String) : Prop :=
  ∀ T : State, T.heap = H → Stand p l e R s m args below meth c T locs cells slots → ∃ t, Steps p.tables e below ((T.setTop g).pushFrame (.throwNew E (some text) none)) t ∧ Q t
theorem vx_vm {pc : Nat} {ls : Array Slot} {rest : List Value} {Q : State → Prop} (hexec : p.tables.exec = Jvm.exec) (hl : l.stackTraces = false) {cls text : String} {names : List String} {nb : Nat} {A : Nat → Prop}
    (hcls : Bundle.fit cls = true) (hnames : ∀ n ∈ names, Bundle.fit n = true) (hsoe : (cls == "java/lang/StackOverflowError") = false) (hoom : (cls == "java/lang/OutOfMemoryError") = false)
    (hat : ∀ w ∈ vx_atM cls names, w.before args s = true) (hgood : ∀ w ∈ vx_atM cls names, vx_ot w = true)
    (hU : vx_Zq Bundle.tN "UNASSIGNED_STACK" Bundle.steD A s s.heap) (hN : vx_Zq Bundle.tN "SUPPRESSED_SENTINEL" Bundle.listD A s s.heap) (hS : va_S A s.heap H locs) (hsize : ls.size = c.maxLocals)
    (htext : (text == notModelled) = false) (hnb : (stringBytes (stringToUtf16 text)).size ≤ nb) (hnb1 : nb ≤ 1000)
    (hRframes : names.length + 4 < R.frames) (hRlocals : (rest.map fun v => v.category).sum + 10240 ≤ R.locals) (hshort : 13 * names.length + 55 ≤ 10240) (hRcells : cells + 3 ≤ R.cells) (hRslots : slots + (nb + 10) ≤ R.slots) (hlocks : meth.locks = false)
    (k : ∀ (H1 : Heap) (q9 : Addr) (ce : Cell), H.size ≤ H1.size → (∀ q : Nat, q < H.size → H1[q]? = H[q]?) → va_S A s.heap H1 locs → H1[q9]? = some ce → ce.vm = .none → s.vm.findClass cls = some ce.cls → vx_W p l e R s m args below meth c H1 locs (cells + 3) (slots + (nb + 10)) Q (F0 m pc ls rest) q9) :
    vx_Note p l e R s m args below meth c H locs cells slots Q (F0 m pc ls rest) cls text := by
  intro T hT X
  have htr : e.platform.stackTraces = false := (show e.platform.stackTraces = l.stackTraces by rw [X.admits.platform]).trans hl
  have Y := vx_rebase X (R' := { frames := R.frames, locals := R.locals, cells := 3, slots := nb + 10 }) (Nat.le_refl _) (Nat.le_refl _) hRcells hRslots
  have hhp : ((T.setVm s.vm).setFrames (.invoking m args :: below)).heap = H := hT
  have hW0 : s.WarmedH ((T.setVm s.vm).setFrames (.invoking m args :: below)).vm := State.WarmedH.refl s
  have hat' : ∀ w ∈ vx_atM cls names, w.before args ((T.setVm s.vm).setFrames (.invoking m args :: below)) = true := fun w hw => vx_ot_at hW0 rfl (hgood w hw) (hat w hw)
  have hU' : vx_Zq Bundle.tN "UNASSIGNED_STACK" Bundle.steD A ((T.setVm s.vm).setFrames (.invoking m args :: below)) ((T.setVm s.vm).setFrames (.invoking m args :: below)).heap := by rw [hhp]; exact vx_Zq.moved hW0.alike (hU.kept hS.2.1)
  have hN' : vx_Zq Bundle.tN "SUPPRESSED_SENTINEL" Bundle.listD A ((T.setVm s.vm).setFrames (.invoking m args :: below)) ((T.setVm s.vm).setFrames (.invoking m args :: below)).heap := by rw [hhp]; exact vx_Zq.moved hW0.alike (hN.kept hS.2.1)
  obtain ⟨S, q, ce, st, Z, hce, hcl', hv⟩ := vx_vmAt Y hexec htr (cls := cls) (names := names) (text := text) hcls hnames hsoe hoom (vx_own hat' (vx_isRefq hU'.1) (vx_isRefq hN'.1) hU'.2.word hN'.2.word) (fun x hx => nomatch hx) htext
    (by rw [Launch.admits_arrayLengthLimit X.admits]; omega) (by rw [Launch.admits_maxHeapBytes X.admits]; simp only [componentBytes]; omega)
    (g := F0 m pc ls rest) rfl hsize hRframes (by show 2 * 0 + (rest.map fun v => v.category).sum + 10240 ≤ R.locals; omega) hshort (by show 0 + 3 ≤ 3; omega) (by show 0 + (_ + 4 + 6) ≤ nb + 10; omega) hlocks
  obtain ⟨f1, f2⟩ := vx_frame Z.same
  have f1' : H.size ≤ S.heap.size := by rw [← hT]; exact f1
  have f2' : ∀ q : Nat, q < H.size → S.heap[q]? = H[q]? := fun q hq => by
    rw [← hT]
    exact f2 q (by rw [← hT] at hq; exact hq) (fun z hz => nomatch hz)
  have X5 := vx_back9 X Y Z
  have X6 : Stand p l e R s m args below meth c S locs (cells + 3) (slots + (nb + 10)) := { X5 with same := X5.same.mono (by omega) (by omega) }
  obtain ⟨t, a1, b1⟩ := k S.heap q ce f1' f2' ⟨Nat.le_trans hS.1 f1', fun q h1 h2 => (f2' q (Nat.lt_of_lt_of_le h1 hS.1)).trans (hS.2.1 q h1 h2), hS.2.2⟩ hce hv hcl' S rfl X6
  exact ⟨t, st t a1, b1⟩
/-- from the machine's note that NullPointerException is thrown here -/
def vx_NoteN (p : Program) (l : Launch) (e : Env) (R : Room) (s : State) (m : MethodId) (args : Array Value) (below : List Frame) (meth : Method) (c : Code) (H : Heap) (locs : List Loc) (cells slots : Nat) (Q : State → Prop) (g : JFrame) : Prop :=
  ∀ T : State, T.heap = H → Stand p l e R s m args below meth c T locs cells slots → ∃ t, Steps p.tables e below ((T.setTop g).pushFrame (.throwNew "java/lang/NullPointerException" none none)) t ∧ Q t
theorem vx_npe {pc : Nat} {ls : Array Slot} {rest : List Value} {Q : State → Prop} (hexec : p.tables.exec = Jvm.exec) (hl : l.stackTraces = false) {nb : Nat} {A : Nat → Prop}
    (hat : ∀ w ∈ vx_atN nb, w.before args s = true) (hgood : ∀ w ∈ vx_atN nb, vx_ot w = true)
    (hU : vx_Zq Bundle.tN "UNASSIGNED_STACK" Bundle.steD A s s.heap) (hN : vx_Zq Bundle.tN "SUPPRESSED_SENTINEL" Bundle.listD A s s.heap) (hS : va_S A s.heap H locs) (hsize : ls.size = c.maxLocals)
    (hRframes : 7 < R.frames) (hRlocals : (rest.map fun v => v.category).sum + 10240 ≤ R.locals) (hRcells : cells + 1 ≤ R.cells) (hRslots : slots + nb ≤ R.slots) (hlocks : meth.locks = false)
    (k : ∀ (H1 : Heap) (q9 : Addr) (ce : Cell), H.size ≤ H1.size → (∀ q : Nat, q < H.size → H1[q]? = H[q]?) → va_S A s.heap H1 locs → H1[q9]? = some ce → ce.vm = .none → s.vm.findClass "java/lang/NullPointerException" = some ce.cls → vx_W p l e R s m args below meth c H1 locs (cells + 1) (slots + nb) Q (F0 m pc ls rest) q9) :
    vx_NoteN p l e R s m args below meth c H locs cells slots Q (F0 m pc ls rest) := by
  intro T hT X
  have htr : e.platform.stackTraces = false := (show e.platform.stackTraces = l.stackTraces by rw [X.admits.platform]).trans hl
  have Y := vx_rebase X (R' := { frames := R.frames, locals := R.locals, cells := 1, slots := nb }) (Nat.le_refl _) (Nat.le_refl _) hRcells hRslots
  have hhp : ((T.setVm s.vm).setFrames (.invoking m args :: below)).heap = H := hT
  have hW0 : s.WarmedH ((T.setVm s.vm).setFrames (.invoking m args :: below)).vm := State.WarmedH.refl s
  have hat' : ∀ w ∈ vx_atN nb, w.before args ((T.setVm s.vm).setFrames (.invoking m args :: below)) = true := fun w hw => vx_ot_at hW0 rfl (hgood w hw) (hat w hw)
  have hU' : vx_Zq Bundle.tN "UNASSIGNED_STACK" Bundle.steD A ((T.setVm s.vm).setFrames (.invoking m args :: below)) ((T.setVm s.vm).setFrames (.invoking m args :: below)).heap := by rw [hhp]; exact vx_Zq.moved hW0.alike (hU.kept hS.2.1)
  have hN' : vx_Zq Bundle.tN "SUPPRESSED_SENTINEL" Bundle.listD A ((T.setVm s.vm).setFrames (.invoking m args :: below)) ((T.setVm s.vm).setFrames (.invoking m args :: below)).heap := by rw [hhp]; exact vx_Zq.moved hW0.alike (hN.kept hS.2.1)
  obtain ⟨S, q, ce, st, Z, hce, hcl', hv⟩ := vx_npeAt Y hexec htr (n := nb) (vx_own hat' (vx_isRefq hU'.1) (vx_isRefq hN'.1) hU'.2.word hN'.2.word) (fun x hx => nomatch hx)
    (g := F0 m pc ls rest) rfl hsize hRframes (by show 2 * 0 + (rest.map fun v => v.category).sum + 10240 ≤ R.locals; omega) (by show 0 + 1 ≤ 1; omega) (by show 0 + nb ≤ nb; omega) hlocks
  obtain ⟨f1, f2⟩ := vx_frame Z.same
  have f1' : H.size ≤ S.heap.size := by rw [← hT]; exact f1
  have f2' : ∀ q : Nat, q < H.size → S.heap[q]? = H[q]? := fun q hq => by
    rw [← hT]
    exact f2 q (by rw [← hT] at hq; exact hq) (fun z hz => nomatch hz)
  have X5 := vx_back9 X Y Z
  have X6 : Stand p l e R s m args below meth c S locs (cells + 1) (slots + nb) := { X5 with same := X5.same.mono (by omega) (by omega) }
  obtain ⟨t, a1, b1⟩ := k S.heap q ce f1' f2' ⟨Nat.le_trans hS.1 f1', fun q h1 h2 => (f2' q (Nat.lt_of_lt_of_le h1 hS.1)).trans (hS.2.1 q h1 h2), hS.2.2⟩ hce hv hcl' S rfl X6
  exact ⟨t, st t a1, b1⟩
variable {Q : State → Prop} {cc : ByteArray} {pc : Nat} {ls : Array Slot} {rest : List Value}
theorem vx_idivZ (hexec : p.tables.exec = Jvm.exec) (hb : c.code = cc) {a b : Int32} (h0 : b = 0) (d : decode cc pc = .ok (.idiv, 1)) (k : vx_Note p l e R s m args below meth c H locs cells slots Q (F0 m pc ls rest) "java/lang/ArithmeticException" "/ by zero") :
    W p l e R s m args below meth c H locs cells slots Q (F0 m pc ls (.int b :: .int a :: rest)) := by
  intro T hT X
  obtain ⟨t, st, q⟩ := k T hT X
  exact ⟨t, X.idivZero hexec (g := F0 m pc ls (.int b :: .int a :: rest)) rfl (a := a) (rest := rest) (by rw [h0]) (by rw [hb]; exact d) t st, q⟩
theorem vx_iremZ (hexec : p.tables.exec = Jvm.exec) (hb : c.code = cc) {a b : Int32} (h0 : b = 0) (d : decode cc pc = .ok (.irem, 1)) (k : vx_Note p l e R s m args below meth c H locs cells slots Q (F0 m pc ls rest) "java/lang/ArithmeticException" "/ by zero") :
    W p l e R s m args below meth c H locs cells slots Q (F0 m pc ls (.int b :: .int a :: rest)) := by
  intro T hT X
  obtain ⟨t, st, q⟩ := k T hT X
  exact ⟨t, X.iremZero hexec (g := F0 m pc ls (.int b :: .int a :: rest)) rfl (a := a) (rest := rest) (by rw [h0]) (by rw [hb]; exact d) t st, q⟩
theorem vx_ldivZ (hexec : p.tables.exec = Jvm.exec) (hb : c.code = cc) {a b : Int64} (h0 : b = 0) (d : decode cc pc = .ok (.ldiv, 1)) (k : vx_Note p l e R s m args below meth c H locs cells slots Q (F0 m pc ls rest) "java/lang/ArithmeticException" "/ by zero") :
    W p l e R s m args below meth c H locs cells slots Q (F0 m pc ls (.long b :: .long a :: rest)) := by
  intro T hT X
  obtain ⟨t, st, q⟩ := k T hT X
  exact ⟨t, X.ldivZero hexec (g := F0 m pc ls (.long b :: .long a :: rest)) rfl (a := a) (rest := rest) (by rw [h0]) (by rw [hb]; exact d) t st, q⟩
theorem vx_lremZ (hexec : p.tables.exec = Jvm.exec) (hb : c.code = cc) {a b : Int64} (h0 : b = 0) (d : decode cc pc = .ok (.lrem, 1)) (k : vx_Note p l e R s m args below meth c H locs cells slots Q (F0 m pc ls rest) "java/lang/ArithmeticException" "/ by zero") :
    W p l e R s m args below meth c H locs cells slots Q (F0 m pc ls (.long b :: .long a :: rest)) := by
  intro T hT X
  obtain ⟨t, st, q⟩ := k T hT X
  exact ⟨t, X.lremZero hexec (g := F0 m pc ls (.long b :: .long a :: rest)) rfl (a := a) (rest := rest) (by rw [h0]) (by rw [hb]; exact d) t st, q⟩
theorem vx_ialdZ {D : va_G} {cl : List vw_C} {ws : va_W} {tys : List (ClassId × FieldType)} {a : Nat} (hexec : p.tables.exec = Jvm.exec) (hb : c.code = cc) (hK : va_K D cl tys s) (hP : va_P D cl ws H) (q0 t0 : Nat) {cA : ClassId} {n : Nat} {f : Nat → Int32} (ha : ws[q0]? = some (a, .inl (cA, n, .inl f))) (ht : tys[t0]? = some (cA, .int)) {i : Int32} (hout : ¬ vp_in i n) (hdg : decode cc pc = .ok (.iaload, 1))
    (k : ∀ tx : String, tx = (toString "Index " ++ toString i ++ toString " out of bounds for length " ++ toString n : String) → vx_Note p l e R s m args below meth c H locs cells slots Q (F0 m pc ls rest) "java/lang/ArrayIndexOutOfBoundsException" tx) : W p l e R s m args below meth c H locs cells slots Q (F0 m pc ls (.int i :: .ref a :: rest)) := by
  intro T hT X
  obtain ⟨t, st, q⟩ := k _ rfl T hT X
  refine ⟨t, ?_, q⟩
  have h1 := X.ialoadOut hexec (by rw [hT]; exact hP q0 _ ha) ((hK.2 t0 _ ht).1 n (fun j => .int (f j))) (j := i) (by show (i < 0 ∨ (arrV _ _ _).slots.size ≤ _); rw [arrV_size]; exact Classical.byContradiction hout) (g := F0 m pc ls (.int i :: .ref a :: rest)) rfl (rest := rest) rfl (by rw [hb]; exact hdg) t
  simp only [arrV_size] at h1
  exact h1 st
theorem vx_iastZ {D : va_G} {cl : List vw_C} {ws : va_W} {tys : List (ClassId × FieldType)} {a : Nat} (hexec : p.tables.exec = Jvm.exec) (hb : c.code = cc) (hK : va_K D cl tys s) (hP : va_P D cl ws H) (q0 t0 : Nat) {cA : ClassId} {n : Nat} {f : Nat → Int32} (ha : ws[q0]? = some (a, .inl (cA, n, .inl f))) (ht : tys[t0]? = some (cA, .int)) {i : Int32} {x : Int32} (hout : ¬ vp_in i n) (hdg : decode cc pc = .ok (.iastore, 1))
    (k : ∀ tx : String, tx = (toString "Index " ++ toString i ++ toString " out of bounds for length " ++ toString n : String) → vx_Note p l e R s m args below meth c H locs cells slots Q (F0 m pc ls rest) "java/lang/ArrayIndexOutOfBoundsException" tx) : W p l e R s m args below meth c H locs cells slots Q (F0 m pc ls (.int x :: .int i :: .ref a :: rest)) := by
  intro T hT X
  obtain ⟨t, st, q⟩ := k _ rfl T hT X
  refine ⟨t, ?_, q⟩
  have h1 := X.iastoreOut hexec (by rw [hT]; exact hP q0 _ ha) ((hK.2 t0 _ ht).1 n (fun j => .int (f j))) (j := i) (by show (i < 0 ∨ (arrV _ _ _).slots.size ≤ _); rw [arrV_size]; exact Classical.byContradiction hout) (g := F0 m pc ls (.int x :: .int i :: .ref a :: rest)) rfl (rest := rest) rfl (by rw [hb]; exact hdg) t
  simp only [arrV_size] at h1
  exact h1 st
theorem vx_baldZ {D : va_G} {cl : List vw_C} {ws : va_W} {tys : List (ClassId × FieldType)} {a : Nat} (hexec : p.tables.exec = Jvm.exec) (hb : c.code = cc) (hK : va_K D cl tys s) (hP : va_P D cl ws H) (q0 t0 : Nat) {cA : ClassId} {n : Nat} {f : Nat → Int32} (ha : ws[q0]? = some (a, .inl (cA, n, .inl f))) (ht : tys[t0]? = some (cA, .byte)) {i : Int32} (hout : ¬ vp_in i n) (hdg : decode cc pc = .ok (.baload, 1))
    (k : ∀ tx : String, tx = (toString "Index " ++ toString i ++ toString " out of bounds for length " ++ toString n : String) → vx_Note p l e R s m args below meth c H locs cells slots Q (F0 m pc ls rest) "java/lang/ArrayIndexOutOfBoundsException" tx) : W p l e R s m args below meth c H locs cells slots Q (F0 m pc ls (.int i :: .ref a :: rest)) := by
  intro T hT X
  obtain ⟨t, st, q⟩ := k _ rfl T hT X
  refine ⟨t, ?_, q⟩
  have h1 := X.baloadOut hexec (by rw [hT]; exact hP q0 _ ha) ((hK.2 t0 _ ht).1 n (fun j => .int (f j))) (j := i) (by show (i < 0 ∨ (arrV _ _ _).slots.size ≤ _); rw [arrV_size]; exact Classical.byContradiction hout) (g := F0 m pc ls (.int i :: .ref a :: rest)) rfl (rest := rest) rfl (by rw [hb]; exact hdg) t
  simp only [arrV_size] at h1
  exact h1 st
theorem vx_bastZ {D : va_G} {cl : List vw_C} {ws : va_W} {tys : List (ClassId × FieldType)} {a : Nat} (hexec : p.tables.exec = Jvm.exec) (hb : c.code = cc) (hK : va_K D cl tys s) (hP : va_P D cl ws H) (q0 t0 : Nat) {cA : ClassId} {n : Nat} {f : Nat → Int32} (ha : ws[q0]? = some (a, .inl (cA, n, .inl f))) (ht : tys[t0]? = some (cA, .byte)) {i : Int32} {x : Int32} (hout : ¬ vp_in i n) (hdg : decode cc pc = .ok (.bastore, 1))
    (k : ∀ tx : String, tx = (toString "Index " ++ toString i ++ toString " out of bounds for length " ++ toString n : String) → vx_Note p l e R s m args below meth c H locs cells slots Q (F0 m pc ls rest) "java/lang/ArrayIndexOutOfBoundsException" tx) : W p l e R s m args below meth c H locs cells slots Q (F0 m pc ls (.int x :: .int i :: .ref a :: rest)) := by
  intro T hT X
  obtain ⟨t, st, q⟩ := k _ rfl T hT X
  refine ⟨t, ?_, q⟩
  have h1 := X.bastoreOut hexec (by rw [hT]; exact hP q0 _ ha) ((hK.2 t0 _ ht).1 n (fun j => .int (f j))) (j := i) (by show (i < 0 ∨ (arrV _ _ _).slots.size ≤ _); rw [arrV_size]; exact Classical.byContradiction hout) (g := F0 m pc ls (.int x :: .int i :: .ref a :: rest)) rfl (rest := rest) rfl (by rw [hb]; exact hdg) t
  simp only [arrV_size] at h1
  exact h1 st
theorem vx_zaldZ {D : va_G} {cl : List vw_C} {ws : va_W} {tys : List (ClassId × FieldType)} {a : Nat} (hexec : p.tables.exec = Jvm.exec) (hb : c.code = cc) (hK : va_K D cl tys s) (hP : va_P D cl ws H) (q0 t0 : Nat) {cA : ClassId} {n : Nat} {f : Nat → Int32} (ha : ws[q0]? = some (a, .inl (cA, n, .inl f))) (ht : tys[t0]? = some (cA, .boolean)) {i : Int32} (hout : ¬ vp_in i n) (hdg : decode cc pc = .ok (.baload, 1))
    (k : ∀ tx : String, tx = (toString "Index " ++ toString i ++ toString " out of bounds for length " ++ toString n : String) → vx_Note p l e R s m args below meth c H locs cells slots Q (F0 m pc ls rest) "java/lang/ArrayIndexOutOfBoundsException" tx) : W p l e R s m args below meth c H locs cells slots Q (F0 m pc ls (.int i :: .ref a :: rest)) := by
  intro T hT X
  obtain ⟨t, st, q⟩ := k _ rfl T hT X
  refine ⟨t, ?_, q⟩
  have h1 := X.baloadOut hexec (by rw [hT]; exact hP q0 _ ha) ((hK.2 t0 _ ht).1 n (fun j => .int (f j))) (j := i) (by show (i < 0 ∨ (arrV _ _ _).slots.size ≤ _); rw [arrV_size]; exact Classical.byContradiction hout) (g := F0 m pc ls (.int i :: .ref a :: rest)) rfl (rest := rest) rfl (by rw [hb]; exact hdg) t
  simp only [arrV_size] at h1
  exact h1 st
theorem vx_zastZ {D : va_G} {cl : List vw_C} {ws : va_W} {tys : List (ClassId × FieldType)} {a : Nat} (hexec : p.tables.exec = Jvm.exec) (hb : c.code = cc) (hK : va_K D cl tys s) (hP : va_P D cl ws H) (q0 t0 : Nat) {cA : ClassId} {n : Nat} {f : Nat → Int32} (ha : ws[q0]? = some (a, .inl (cA, n, .inl f))) (ht : tys[t0]? = some (cA, .boolean)) {i : Int32} {x : Int32} (hout : ¬ vp_in i n) (hdg : decode cc pc = .ok (.bastore, 1))
    (k : ∀ tx : String, tx = (toString "Index " ++ toString i ++ toString " out of bounds for length " ++ toString n : String) → vx_Note p l e R s m args below meth c H locs cells slots Q (F0 m pc ls rest) "java/lang/ArrayIndexOutOfBoundsException" tx) : W p l e R s m args below meth c H locs cells slots Q (F0 m pc ls (.int x :: .int i :: .ref a :: rest)) := by
  intro T hT X
  obtain ⟨t, st, q⟩ := k _ rfl T hT X
  refine ⟨t, ?_, q⟩
  have h1 := X.bastoreOut hexec (by rw [hT]; exact hP q0 _ ha) ((hK.2 t0 _ ht).1 n (fun j => .int (f j))) (j := i) (by show (i < 0 ∨ (arrV _ _ _).slots.size ≤ _); rw [arrV_size]; exact Classical.byContradiction hout) (g := F0 m pc ls (.int x :: .int i :: .ref a :: rest)) rfl (rest := rest) rfl (by rw [hb]; exact hdg) t
  simp only [arrV_size] at h1
  exact h1 st
theorem vx_caldZ {D : va_G} {cl : List vw_C} {ws : va_W} {tys : List (ClassId × FieldType)} {a : Nat} (hexec : p.tables.exec = Jvm.exec) (hb : c.code = cc) (hK : va_K D cl tys s) (hP : va_P D cl ws H) (q0 t0 : Nat) {cA : ClassId} {n : Nat} {f : Nat → Int32} (ha : ws[q0]? = some (a, .inl (cA, n, .inl f))) (ht : tys[t0]? = some (cA, .char)) {i : Int32} (hout : ¬ vp_in i n) (hdg : decode cc pc = .ok (.caload, 1))
    (k : ∀ tx : String, tx = (toString "Index " ++ toString i ++ toString " out of bounds for length " ++ toString n : String) → vx_Note p l e R s m args below meth c H locs cells slots Q (F0 m pc ls rest) "java/lang/ArrayIndexOutOfBoundsException" tx) : W p l e R s m args below meth c H locs cells slots Q (F0 m pc ls (.int i :: .ref a :: rest)) := by
  intro T hT X
  obtain ⟨t, st, q⟩ := k _ rfl T hT X
  refine ⟨t, ?_, q⟩
  have h1 := X.caloadOut hexec (by rw [hT]; exact hP q0 _ ha) ((hK.2 t0 _ ht).1 n (fun j => .int (f j))) (j := i) (by show (i < 0 ∨ (arrV _ _ _).slots.size ≤ _); rw [arrV_size]; exact Classical.byContradiction hout) (g := F0 m pc ls (.int i :: .ref a :: rest)) rfl (rest := rest) rfl (by rw [hb]; exact hdg) t
  simp only [arrV_size] at h1
  exact h1 st
theorem vx_castZ {D : va_G} {cl : List vw_C} {ws : va_W} {tys : List (ClassId × FieldType)} {a : Nat} (hexec : p.tables.exec = Jvm.exec) (hb : c.code = cc) (hK : va_K D cl tys s) (hP : va_P D cl ws H) (q0 t0 : Nat) {cA : ClassId} {n : Nat} {f : Nat → Int32} (ha : ws[q0]? = some (a, .inl (cA, n, .inl f))) (ht : tys[t0]? = some (cA, .char)) {i : Int32} {x : Int32} (hout : ¬ vp_in i n) (hdg : decode cc pc = .ok (.castore, 1))
    (k : ∀ tx : String, tx = (toString "Index " ++ toString i ++ toString " out of bounds for length " ++ toString n : String) → vx_Note p l e R s m args below meth c H locs cells slots Q (F0 m pc ls rest) "java/lang/ArrayIndexOutOfBoundsException" tx) : W p l e R s m args below meth c H locs cells slots Q (F0 m pc ls (.int x :: .int i :: .ref a :: rest)) := by
  intro T hT X
  obtain ⟨t, st, q⟩ := k _ rfl T hT X
  refine ⟨t, ?_, q⟩
  have h1 := X.castoreOut hexec (by rw [hT]; exact hP q0 _ ha) ((hK.2 t0 _ ht).1 n (fun j => .int (f j))) (j := i) (by show (i < 0 ∨ (arrV _ _ _).slots.size ≤ _); rw [arrV_size]; exact Classical.byContradiction hout) (g := F0 m pc ls (.int x :: .int i :: .ref a :: rest)) rfl (rest := rest) rfl (by rw [hb]; exact hdg) t
  simp only [arrV_size] at h1
  exact h1 st
theorem vx_saldZ {D : va_G} {cl : List vw_C} {ws : va_W} {tys : List (ClassId × FieldType)} {a : Nat} (hexec : p.tables.exec = Jvm.exec) (hb : c.code = cc) (hK : va_K D cl tys s) (hP : va_P D cl ws H) (q0 t0 : Nat) {cA : ClassId} {n : Nat} {f : Nat → Int32} (ha : ws[q0]? = some (a, .inl (cA, n, .inl f))) (ht : tys[t0]? = some (cA, .short)) {i : Int32} (hout : ¬ vp_in i n) (hdg : decode cc pc = .ok (.saload, 1))
    (k : ∀ tx : String, tx = (toString "Index " ++ toString i ++ toString " out of bounds for length " ++ toString n : String) → vx_Note p l e R s m args below meth c H locs cells slots Q (F0 m pc ls rest) "java/lang/ArrayIndexOutOfBoundsException" tx) : W p l e R s m args below meth c H locs cells slots Q (F0 m pc ls (.int i :: .ref a :: rest)) := by
  intro T hT X
  obtain ⟨t, st, q⟩ := k _ rfl T hT X
  refine ⟨t, ?_, q⟩
  have h1 := X.saloadOut hexec (by rw [hT]; exact hP q0 _ ha) ((hK.2 t0 _ ht).1 n (fun j => .int (f j))) (j := i) (by show (i < 0 ∨ (arrV _ _ _).slots.size ≤ _); rw [arrV_size]; exact Classical.byContradiction hout) (g := F0 m pc ls (.int i :: .ref a :: rest)) rfl (rest := rest) rfl (by rw [hb]; exact hdg) t
  simp only [arrV_size] at h1
  exact h1 st
theorem vx_sastZ {D : va_G} {cl : List vw_C} {ws : va_W} {tys : List (ClassId × FieldType)} {a : Nat} (hexec : p.tables.exec = Jvm.exec) (hb : c.code = cc) (hK : va_K D cl tys s) (hP : va_P D cl ws H) (q0 t0 : Nat) {cA : ClassId} {n : Nat} {f : Nat → Int32} (ha : ws[q0]? = some (a, .inl (cA, n, .inl f))) (ht : tys[t0]? = some (cA, .short)) {i : Int32} {x : Int32} (hout : ¬ vp_in i n) (hdg : decode cc pc = .ok (.sastore, 1))
    (k : ∀ tx : String, tx = (toString "Index " ++ toString i ++ toString " out of bounds for length " ++ toString n : String) → vx_Note p l e R s m args below meth c H locs cells slots Q (F0 m pc ls rest) "java/lang/ArrayIndexOutOfBoundsException" tx) : W p l e R s m args below meth c H locs cells slots Q (F0 m pc ls (.int x :: .int i :: .ref a :: rest)) := by
  intro T hT X
  obtain ⟨t, st, q⟩ := k _ rfl T hT X
  refine ⟨t, ?_, q⟩
  have h1 := X.sastoreOut hexec (by rw [hT]; exact hP q0 _ ha) ((hK.2 t0 _ ht).1 n (fun j => .int (f j))) (j := i) (by show (i < 0 ∨ (arrV _ _ _).slots.size ≤ _); rw [arrV_size]; exact Classical.byContradiction hout) (g := F0 m pc ls (.int x :: .int i :: .ref a :: rest)) rfl (rest := rest) rfl (by rw [hb]; exact hdg) t
  simp only [arrV_size] at h1
  exact h1 st
theorem vx_laldZ {D : va_G} {cl : List vw_C} {ws : va_W} {tys : List (ClassId × FieldType)} {a : Nat} (hexec : p.tables.exec = Jvm.exec) (hb : c.code = cc) (hK : va_K D cl tys s) (hP : va_P D cl ws H) (q0 t0 : Nat) {cA : ClassId} {n : Nat} {f : Nat → Int64} (ha : ws[q0]? = some (a, .inl (cA, n, .inr (.inl f)))) (ht : tys[t0]? = some (cA, .long)) {i : Int32} (hout : ¬ vp_in i n) (hdg : decode cc pc = .ok (.laload, 1))
    (k : ∀ tx : String, tx = (toString "Index " ++ toString i ++ toString " out of bounds for length " ++ toString n : String) → vx_Note p l e R s m args below meth c H locs cells slots Q (F0 m pc ls rest) "java/lang/ArrayIndexOutOfBoundsException" tx) : W p l e R s m args below meth c H locs cells slots Q (F0 m pc ls (.int i :: .ref a :: rest)) := by
  intro T hT X
  obtain ⟨t, st, q⟩ := k _ rfl T hT X
  refine ⟨t, ?_, q⟩
  have h1 := X.laloadOut hexec (by rw [hT]; exact hP q0 _ ha) ((hK.2 t0 _ ht).1 n (fun j => .long (f j))) (j := i) (by show (i < 0 ∨ (arrV _ _ _).slots.size ≤ _); rw [arrV_size]; exact Classical.byContradiction hout) (g := F0 m pc ls (.int i :: .ref a :: rest)) rfl (rest := rest) rfl (by rw [hb]; exact hdg) t
  simp only [arrV_size] at h1
  exact h1 st
theorem vx_lastZ {D : va_G} {cl : List vw_C} {ws : va_W} {tys : List (ClassId × FieldType)} {a : Nat} (hexec : p.tables.exec = Jvm.exec) (hb : c.code = cc) (hK : va_K D cl tys s) (hP : va_P D cl ws H) (q0 t0 : Nat) {cA : ClassId} {n : Nat} {f : Nat → Int64} (ha : ws[q0]? = some (a, .inl (cA, n, .inr (.inl f)))) (ht : tys[t0]? = some (cA, .long)) {i : Int32} {x : Int64} (hout : ¬ vp_in i n) (hdg : decode cc pc = .ok (.lastore, 1))
    (k : ∀ tx : String, tx = (toString "Index " ++ toString i ++ toString " out of bounds for length " ++ toString n : String) → vx_Note p l e R s m args below meth c H locs cells slots Q (F0 m pc ls rest) "java/lang/ArrayIndexOutOfBoundsException" tx) : W p l e R s m args below meth c H locs cells slots Q (F0 m pc ls (.long x :: .int i :: .ref a :: rest)) := by
  intro T hT X
  obtain ⟨t, st, q⟩ := k _ rfl T hT X
  refine ⟨t, ?_, q⟩
  have h1 := X.lastoreOut hexec (by rw [hT]; exact hP q0 _ ha) ((hK.2 t0 _ ht).1 n (fun j => .long (f j))) (j := i) (by show (i < 0 ∨ (arrV _ _ _).slots.size ≤ _); rw [arrV_size]; exact Classical.byContradiction hout) (g := F0 m pc ls (.long x :: .int i :: .ref a :: rest)) rfl (rest := rest) rfl (by rw [hb]; exact hdg) t
  simp only [arrV_size] at h1
  exact h1 st
theorem vx_faldZ {D : va_G} {cl : List vw_C} {ws : va_W} {tys : List (ClassId × FieldType)} {a : Nat} (hexec : p.tables.exec = Jvm.exec) (hb : c.code = cc) (hK : va_K D cl tys s) (hP : va_P D cl ws H) (q0 t0 : Nat) {cA : ClassId} {n : Nat} {f : Nat → UInt32} (ha : ws[q0]? = some (a, .inl (cA, n, .inr (.inr (.inl f))))) (ht : tys[t0]? = some (cA, .float)) {i : Int32} (hout : ¬ vp_in i n) (hdg : decode cc pc = .ok (.faload, 1))
    (k : ∀ tx : String, tx = (toString "Index " ++ toString i ++ toString " out of bounds for length " ++ toString n : String) → vx_Note p l e R s m args below meth c H locs cells slots Q (F0 m pc ls rest) "java/lang/ArrayIndexOutOfBoundsException" tx) : W p l e R s m args below meth c H locs cells slots Q (F0 m pc ls (.int i :: .ref a :: rest)) := by
  intro T hT X
  obtain ⟨t, st, q⟩ := k _ rfl T hT X
  refine ⟨t, ?_, q⟩
  have h1 := X.faloadOut hexec (by rw [hT]; exact hP q0 _ ha) ((hK.2 t0 _ ht).1 n (fun j => .float (f j))) (j := i) (by show (i < 0 ∨ (arrV _ _ _).slots.size ≤ _); rw [arrV_size]; exact Classical.byContradiction hout) (g := F0 m pc ls (.int i :: .ref a :: rest)) rfl (rest := rest) rfl (by rw [hb]; exact hdg) t
  simp only [arrV_size] at h1
  exact h1 st
theorem vx_fastZ {D : va_G} {cl : List vw_C} {ws : va_W} {tys : List (ClassId × FieldType)} {a : Nat} (hexec : p.tables.exec = Jvm.exec) (hb : c.code = cc) (hK : va_K D cl tys s) (hP : va_P D cl ws H) (q0 t0 : Nat) {cA : ClassId} {n : Nat} {f : Nat → UInt32} (ha : ws[q0]? = some (a, .inl (cA, n, .inr (.inr (.inl f))))) (ht : tys[t0]? = some (cA, .float)) {i : Int32} {x : UInt32} (hout : ¬ vp_in i n) (hdg : decode cc pc = .ok (.fastore, 1))
    (k : ∀ tx : String, tx = (toString "Index " ++ toString i ++ toString " out of bounds for length " ++ toString n : String) → vx_Note p l e R s m args below meth c H locs cells slots Q (F0 m pc ls rest) "java/lang/ArrayIndexOutOfBoundsException" tx) : W p l e R s m args below meth c H locs cells slots Q (F0 m pc ls (.float x :: .int i :: .ref a :: rest)) := by
  intro T hT X
  obtain ⟨t, st, q⟩ := k _ rfl T hT X
  refine ⟨t, ?_, q⟩
  have h1 := X.fastoreOut hexec (by rw [hT]; exact hP q0 _ ha) ((hK.2 t0 _ ht).1 n (fun j => .float (f j))) (j := i) (by show (i < 0 ∨ (arrV _ _ _).slots.size ≤ _); rw [arrV_size]; exact Classical.byContradiction hout) (g := F0 m pc ls (.float x :: .int i :: .ref a :: rest)) rfl (rest := rest) rfl (by rw [hb]; exact hdg) t
  simp only [arrV_size] at h1
  exact h1 st
theorem vx_daldZ {D : va_G} {cl : List vw_C} {ws : va_W} {tys : List (ClassId × FieldType)} {a : Nat} (hexec : p.tables.exec = Jvm.exec) (hb : c.code = cc) (hK : va_K D cl tys s) (hP : va_P D cl ws H) (q0 t0 : Nat) {cA : ClassId} {n : Nat} {f : Nat → UInt64} (ha : ws[q0]? = some (a, .inl (cA, n, .inr (.inr (.inr (.inl f)))))) (ht : tys[t0]? = some (cA, .double)) {i : Int32} (hout : ¬ vp_in i n) (hdg : decode cc pc = .ok (.daload, 1))
    (k : ∀ tx : String, tx = (toString "Index " ++ toString i ++ toString " out of bounds for length " ++ toString n : String) → vx_Note p l e R s m args below meth c H locs cells slots Q (F0 m pc ls rest) "java/lang/ArrayIndexOutOfBoundsException" tx) : W p l e R s m args below meth c H locs cells slots Q (F0 m pc ls (.int i :: .ref a :: rest)) := by
  intro T hT X
  obtain ⟨t, st, q⟩ := k _ rfl T hT X
  refine ⟨t, ?_, q⟩
  have h1 := X.daloadOut hexec (by rw [hT]; exact hP q0 _ ha) ((hK.2 t0 _ ht).1 n (fun j => .double (f j))) (j := i) (by show (i < 0 ∨ (arrV _ _ _).slots.size ≤ _); rw [arrV_size]; exact Classical.byContradiction hout) (g := F0 m pc ls (.int i :: .ref a :: rest)) rfl (rest := rest) rfl (by rw [hb]; exact hdg) t
  simp only [arrV_size] at h1
  exact h1 st
theorem vx_dastZ {D : va_G} {cl : List vw_C} {ws : va_W} {tys : List (ClassId × FieldType)} {a : Nat} (hexec : p.tables.exec = Jvm.exec) (hb : c.code = cc) (hK : va_K D cl tys s) (hP : va_P D cl ws H) (q0 t0 : Nat) {cA : ClassId} {n : Nat} {f : Nat → UInt64} (ha : ws[q0]? = some (a, .inl (cA, n, .inr (.inr (.inr (.inl f)))))) (ht : tys[t0]? = some (cA, .double)) {i : Int32} {x : UInt64} (hout : ¬ vp_in i n) (hdg : decode cc pc = .ok (.dastore, 1))
    (k : ∀ tx : String, tx = (toString "Index " ++ toString i ++ toString " out of bounds for length " ++ toString n : String) → vx_Note p l e R s m args below meth c H locs cells slots Q (F0 m pc ls rest) "java/lang/ArrayIndexOutOfBoundsException" tx) : W p l e R s m args below meth c H locs cells slots Q (F0 m pc ls (.double x :: .int i :: .ref a :: rest)) := by
  intro T hT X
  obtain ⟨t, st, q⟩ := k _ rfl T hT X
  refine ⟨t, ?_, q⟩
  have h1 := X.dastoreOut hexec (by rw [hT]; exact hP q0 _ ha) ((hK.2 t0 _ ht).1 n (fun j => .double (f j))) (j := i) (by show (i < 0 ∨ (arrV _ _ _).slots.size ≤ _); rw [arrV_size]; exact Classical.byContradiction hout) (g := F0 m pc ls (.double x :: .int i :: .ref a :: rest)) rfl (rest := rest) rfl (by rw [hb]; exact hdg) t
  simp only [arrV_size] at h1
  exact h1 st
theorem vx_arraylengthN (hexec : p.tables.exec = Jvm.exec) (hb : c.code = cc) (hdg : decode cc pc = .ok (.arraylength, 1)) (k : vx_NoteN p l e R s m args below meth c H locs cells slots Q (F0 m pc ls rest)) : W p l e R s m args below meth c H locs cells slots Q (F0 m pc ls (.null :: rest)) := by
  intro T hT X
  obtain ⟨t, st, q⟩ := k T hT X
  exact ⟨t, X.arraylengthNull hexec (g := F0 m pc ls (.null :: rest)) rfl (rest := rest) rfl (by rw [hb]; exact hdg) t st, q⟩
theorem vx_ialoadN (hexec : p.tables.exec = Jvm.exec) (hb : c.code = cc) {i : Int32} (hdg : decode cc pc = .ok (.iaload, 1)) (k : vx_NoteN p l e R s m args below meth c H locs cells slots Q (F0 m pc ls rest)) : W p l e R s m args below meth c H locs cells slots Q (F0 m pc ls (.int i :: .null :: rest)) := by
  intro T hT X
  obtain ⟨t, st, q⟩ := k T hT X
  exact ⟨t, X.ialoadNull hexec (g := F0 m pc ls (.int i :: .null :: rest)) rfl (rest := rest) rfl (by rw [hb]; exact hdg) t st, q⟩
theorem vx_laloadN (hexec : p.tables.exec = Jvm.exec) (hb : c.code = cc) {i : Int32} (hdg : decode cc pc = .ok (.laload, 1)) (k : vx_NoteN p l e R s m args below meth c H locs cells slots Q (F0 m pc ls rest)) : W p l e R s m args below meth c H locs cells slots Q (F0 m pc ls (.int i :: .null :: rest)) := by
  intro T hT X
  obtain ⟨t, st, q⟩ := k T hT X
  exact ⟨t, X.laloadNull hexec (g := F0 m pc ls (.int i :: .null :: rest)) rfl (rest := rest) rfl (by rw [hb]; exact hdg) t st, q⟩
theorem vx_faloadN (hexec : p.tables.exec = Jvm.exec) (hb : c.code = cc) {i : Int32} (hdg : decode cc pc = .ok (.faload, 1)) (k : vx_NoteN p l e R s m args below meth c H locs cells slots Q (F0 m pc ls rest)) : W p l e R s m args below meth c H locs cells slots Q (F0 m pc ls (.int i :: .null :: rest)) := by
  intro T hT X
  obtain ⟨t, st, q⟩ := k T hT X
  exact ⟨t, X.faloadNull hexec (g := F0 m pc ls (.int i :: .null :: rest)) rfl (rest := rest) rfl (by rw [hb]; exact hdg) t st, q⟩
theorem vx_daloadN (hexec : p.tables.exec = Jvm.exec) (hb : c.code = cc) {i : Int32} (hdg : decode cc pc = .ok (.daload, 1)) (k : vx_NoteN p l e R s m args below meth c H locs cells slots Q (F0 m pc ls rest)) : W p l e R s m args below meth c H locs cells slots Q (F0 m pc ls (.int i :: .null :: rest)) := by
  intro T hT X
  obtain ⟨t, st, q⟩ := k T hT X
  exact ⟨t, X.daloadNull hexec (g := F0 m pc ls (.int i :: .null :: rest)) rfl (rest := rest) rfl (by rw [hb]; exact hdg) t st, q⟩
theorem vx_aaloadN (hexec : p.tables.exec = Jvm.exec) (hb : c.code = cc) {i : Int32} (hdg : decode cc pc = .ok (.aaload, 1)) (k : vx_NoteN p l e R s m args below meth c H locs cells slots Q (F0 m pc ls rest)) : W p l e R s m args below meth c H locs cells slots Q (F0 m pc ls (.int i :: .null :: rest)) := by
  intro T hT X
  obtain ⟨t, st, q⟩ := k T hT X
  exact ⟨t, X.aaloadNull hexec (g := F0 m pc ls (.int i :: .null :: rest)) rfl (rest := rest) rfl (by rw [hb]; exact hdg) t st, q⟩
theorem vx_baloadN (hexec : p.tables.exec = Jvm.exec) (hb : c.code = cc) {i : Int32} (hdg : decode cc pc = .ok (.baload, 1)) (k : vx_NoteN p l e R s m args below meth c H locs cells slots Q (F0 m pc ls rest)) : W p l e R s m args below meth c H locs cells slots Q (F0 m pc ls (.int i :: .null :: rest)) := by
  intro T hT X
  obtain ⟨t, st, q⟩ := k T hT X
  exact ⟨t, X.baloadNull hexec (g := F0 m pc ls (.int i :: .null :: rest)) rfl (rest := rest) rfl (by rw [hb]; exact hdg) t st, q⟩
theorem vx_caloadN (hexec : p.tables.exec = Jvm.exec) (hb : c.code = cc) {i : Int32} (hdg : decode cc pc = .ok (.caload, 1)) (k : vx_NoteN p l e R s m args below meth c H locs cells slots Q (F0 m pc ls rest)) : W p l e R s m args below meth c H locs cells slots Q (F0 m pc ls (.int i :: .null :: rest)) := by
  intro T hT X
  obtain ⟨t, st, q⟩ := k T hT X
  exact ⟨t, X.caloadNull hexec (g := F0 m pc ls (.int i :: .null :: rest)) rfl (rest := rest) rfl (by rw [hb]; exact hdg) t st, q⟩
theorem vx_saloadN (hexec : p.tables.exec = Jvm.exec) (hb : c.code = cc) {i : Int32} (hdg : decode cc pc = .ok (.saload, 1)) (k : vx_NoteN p l e R s m args below meth c H locs cells slots Q (F0 m pc ls rest)) : W p l e R s m args below meth c H locs cells slots Q (F0 m pc ls (.int i :: .null :: rest)) := by
  intro T hT X
  obtain ⟨t, st, q⟩ := k T hT X
  exact ⟨t, X.saloadNull hexec (g := F0 m pc ls (.int i :: .null :: rest)) rfl (rest := rest) rfl (by rw [hb]; exact hdg) t st, q⟩
theorem vx_iastoreN (hexec : p.tables.exec = Jvm.exec) (hb : c.code = cc) {x : Int32} {i : Int32} (hdg : decode cc pc = .ok (.iastore, 1)) (k : vx_NoteN p l e R s m args below meth c H locs cells slots Q (F0 m pc ls rest)) : W p l e R s m args below meth c H locs cells slots Q (F0 m pc ls (.int x :: .int i :: .null :: rest)) := by
  intro T hT X
  obtain ⟨t, st, q⟩ := k T hT X
  exact ⟨t, X.iastoreNull hexec (g := F0 m pc ls (.int x :: .int i :: .null :: rest)) rfl (rest := rest) rfl (by rw [hb]; exact hdg) t st, q⟩
theorem vx_lastoreN (hexec : p.tables.exec = Jvm.exec) (hb : c.code = cc) {x : Int64} {i : Int32} (hdg : decode cc pc = .ok (.lastore, 1)) (k : vx_NoteN p l e R s m args below meth c H locs cells slots Q (F0 m pc ls rest)) : W p l e R s m args below meth c H locs cells slots Q (F0 m pc ls (.long x :: .int i :: .null :: rest)) := by
  intro T hT X
  obtain ⟨t, st, q⟩ := k T hT X
  exact ⟨t, X.lastoreNull hexec (g := F0 m pc ls (.long x :: .int i :: .null :: rest)) rfl (rest := rest) rfl (by rw [hb]; exact hdg) t st, q⟩
theorem vx_fastoreN (hexec : p.tables.exec = Jvm.exec) (hb : c.code = cc) {x : UInt32} {i : Int32} (hdg : decode cc pc = .ok (.fastore, 1)) (k : vx_NoteN p l e R s m args below meth c H locs cells slots Q (F0 m pc ls rest)) : W p l e R s m args below meth c H locs cells slots Q (F0 m pc ls (.float x :: .int i :: .null :: rest)) := by
  intro T hT X
  obtain ⟨t, st, q⟩ := k T hT X
  exact ⟨t, X.fastoreNull hexec (g := F0 m pc ls (.float x :: .int i :: .null :: rest)) rfl (rest := rest) rfl (by rw [hb]; exact hdg) t st, q⟩
theorem vx_dastoreN (hexec : p.tables.exec = Jvm.exec) (hb : c.code = cc) {x : UInt64} {i : Int32} (hdg : decode cc pc = .ok (.dastore, 1)) (k : vx_NoteN p l e R s m args below meth c H locs cells slots Q (F0 m pc ls rest)) : W p l e R s m args below meth c H locs cells slots Q (F0 m pc ls (.double x :: .int i :: .null :: rest)) := by
  intro T hT X
  obtain ⟨t, st, q⟩ := k T hT X
  exact ⟨t, X.dastoreNull hexec (g := F0 m pc ls (.double x :: .int i :: .null :: rest)) rfl (rest := rest) rfl (by rw [hb]; exact hdg) t st, q⟩
theorem vx_bastoreN (hexec : p.tables.exec = Jvm.exec) (hb : c.code = cc) {x : Int32} {i : Int32} (hdg : decode cc pc = .ok (.bastore, 1)) (k : vx_NoteN p l e R s m args below meth c H locs cells slots Q (F0 m pc ls rest)) : W p l e R s m args below meth c H locs cells slots Q (F0 m pc ls (.int x :: .int i :: .null :: rest)) := by
  intro T hT X
  obtain ⟨t, st, q⟩ := k T hT X
  exact ⟨t, X.bastoreNull hexec (g := F0 m pc ls (.int x :: .int i :: .null :: rest)) rfl (rest := rest) rfl (by rw [hb]; exact hdg) t st, q⟩
theorem vx_castoreN (hexec : p.tables.exec = Jvm.exec) (hb : c.code = cc) {x : Int32} {i : Int32} (hdg : decode cc pc = .ok (.castore, 1)) (k : vx_NoteN p l e R s m args below meth c H locs cells slots Q (F0 m pc ls rest)) : W p l e R s m args below meth c H locs cells slots Q (F0 m pc ls (.int x :: .int i :: .null :: rest)) := by
  intro T hT X
  obtain ⟨t, st, q⟩ := k T hT X
  exact ⟨t, X.castoreNull hexec (g := F0 m pc ls (.int x :: .int i :: .null :: rest)) rfl (rest := rest) rfl (by rw [hb]; exact hdg) t st, q⟩
theorem vx_sastoreN (hexec : p.tables.exec = Jvm.exec) (hb : c.code = cc) {x : Int32} {i : Int32} (hdg : decode cc pc = .ok (.sastore, 1)) (k : vx_NoteN p l e R s m args below meth c H locs cells slots Q (F0 m pc ls rest)) : W p l e R s m args below meth c H locs cells slots Q (F0 m pc ls (.int x :: .int i :: .null :: rest)) := by
  intro T hT X
  obtain ⟨t, st, q⟩ := k T hT X
  exact ⟨t, X.sastoreNull hexec (g := F0 m pc ls (.int x :: .int i :: .null :: rest)) rfl (rest := rest) rfl (by rw [hb]; exact hdg) t st, q⟩
theorem vx_invokeN {own C : String} {index maxL : Nat} {y : MethodName} {bytes : ByteArray} {ret : Option FieldType} (hexec : p.tables.exec = Jvm.exec) (hb : c.code = cc) (hown : s.vm.findClass own = some m.cls) (hlink : (Cond.methodLink own index y).before args s = true) (hinst : (Cond.instanceMethod y).before args s = true) (hcode : (Cond.code y bytes maxL ret).before args s = true) (hsel : (Cond.selects C y y).before args s = true)
    (hx : y.cls ≠ "java/lang/invoke/MethodHandle" ∧ y.cls ≠ "java/lang/invoke/VarHandle") {As : List Value} (hlen : (parseMethodDescriptor y.desc).map (fun d => d.parameters.length) = some As.length) (hdg : decode cc pc = .ok (.invokevirtual index, 3))
    (k : vx_NoteN p l e R s m args below meth c H locs cells slots Q (F0 m pc ls rest)) {st0 : List Value} (hst : st0 = As.reverse ++ .null :: rest) : W p l e R s m args below meth c H locs cells slots Q (F0 m pc ls st0) := by
  intro T hT X
  obtain ⟨r0, r, hn, hrm, hstR, hsigR⟩ := va_Decl.of hinst hcode
  obtain ⟨c2, r2, m2, q1, q2, q3, q4, kP, hkP, hkPi⟩ := Cond.selects_spec hsel
  cases hn.symm.trans q3
  have hl9 : As.length = r.sig.parameters.length := by
    rw [hsigR] at hlen
    exact (Option.some.inj hlen).symm
  obtain ⟨vm', X1, st1⟩ := X.invokevirtualNull hexec hown hlink hn hrm hstR hkP hkPi hx (g := F0 m pc ls st0) rfl (argsL := As) (rest := rest) hl9 hst (by rw [hb]; exact hdg)
  obtain ⟨t, st, q⟩ := k (T.setVm vm') hT X1
  exact ⟨t, st1 t st, q⟩
theorem vx_newarrayZ {atype : ArrayType} (hexec : p.tables.exec = Jvm.exec) (hb : c.code = cc) {n : Int32} (h0 : n < 0) (hdg : decode cc pc = .ok (.newarray atype, 2)) (k : ∀ tx : String, tx = toString n → vx_Note p l e R s m args below meth c H locs cells slots Q (F0 m pc ls rest) "java/lang/NegativeArraySizeException" tx) : W p l e R s m args below meth c H locs cells slots Q (F0 m pc ls (.int n :: rest)) := by
  intro T hT X
  obtain ⟨t, st, q⟩ := k _ rfl T hT X
  exact ⟨t, X.newarrayNegative hexec (g := F0 m pc ls (.int n :: rest)) rfl h0 (rest := rest) rfl (by rw [hb]; exact hdg) t st, q⟩
end
end VXM
/-! ===== END ===== -/
end
section
/-! ===== BEGIN printed: names, fields, word lists, decode rows ===== -/
def RX0 : String := "BranchRelaxer$AddressSet"
def TX0 : u_T := fun k => match k with
  | 0 => ("BranchRelaxer$AddressSet", "program", "LBranchRelaxer$Program;", true)
  | 1 => ("BranchRelaxer$AddressSet", "layout", "LBranchRelaxer$Layout;", true)
  | 2 => ("BranchRelaxer$AddressSet", "holds", "[Z", true)
  | 3 => ("BranchRelaxer$AddressSet", "lowest", "I", false)
  | _ => ("BranchRelaxer$AddressSet", "highest", "I", false)
def tyX0 : Nat → FieldType := fun k => match k with
  | 0 => .object "BranchRelaxer$Program"
  | 1 => .object "BranchRelaxer$Layout"
  | 2 => .array .boolean
  | 3 => .int
  | _ => .int
abbrev wsX00 : List Cond := u_ws RX0 TX0 5
theorem nmX0 : ∀ a, a < 5 → ∀ b, b < 5 → a ≠ b → (TX0 a).2.1 ≠ (TX0 b).2.1 := by decide +kernel
theorem tyX0_ok : ∀ k, k < 5 → parseFieldDescriptor (TX0 k).2.2.1 = some (tyX0 k) := by decide +kernel
abbrev cX0_init : ByteArray := prog_2_method_1_code
def yX0_init : MethodName := ⟨RX0, "<init>", "(LBranchRelaxer$Program;LBranchRelaxer$Layout;)V"⟩
abbrev cX0_numberAt : ByteArray := prog_2_method_2_code
def yX0_numberAt : MethodName := ⟨RX0, "numberAt", "(I)I"⟩
abbrev cX0_startWithZero : ByteArray := prog_2_method_3_code
def yX0_startWithZero : MethodName := ⟨RX0, "startWithZero", "()V"⟩
abbrev cX0_passItem : ByteArray := prog_2_method_4_code
def yX0_passItem : MethodName := ⟨RX0, "passItem", "(I)V"⟩
abbrev cX0_hold : ByteArray := prog_2_method_5_code
def yX0_hold : MethodName := ⟨RX0, "hold", "(I)V"⟩
def RX1 : String := "BranchRelaxer$FormSearch"
def TX1 : u_T := fun k => match k with
  | 0 => ("BranchRelaxer$FormSearch", "program", "LBranchRelaxer$Program;", true)
  | 1 => ("BranchRelaxer$FormSearch", "links", "LBranchRelaxer$Links;", true)
  | 2 => ("BranchRelaxer$FormSearch", "layout", "LBranchRelaxer$Layout;", true)
  | 3 => ("BranchRelaxer$FormSearch", "addresses", "[I", true)
  | 4 => ("BranchRelaxer$FormSearch", "forms", "[I", true)
  | 5 => ("BranchRelaxer$FormSearch", "bestForms", "[I", true)
  | 6 => ("BranchRelaxer$FormSearch", "choices", "I", false)
  | _ => ("BranchRelaxer$FormSearch", "leastTotal", "I", false)
def tyX1 : Nat → FieldType := fun k => match k with
  | 0 => .object "BranchRelaxer$Program"
  | 1 => .object "BranchRelaxer$Links"
  | 2 => .object "BranchRelaxer$Layout"
  | 3 => .array .int
  | 4 => .array .int
  | 5 => .array .int
  | 6 => .int
  | _ => .int
abbrev wsX10 : List Cond := u_ws RX1 TX1 8
theorem nmX1 : ∀ a, a < 8 → ∀ b, b < 8 → a ≠ b → (TX1 a).2.1 ≠ (TX1 b).2.1 := by decide +kernel
theorem tyX1_ok : ∀ k, k < 8 → parseFieldDescriptor (TX1 k).2.2.1 = some (tyX1 k) := by decide +kernel
abbrev cX1_init : ByteArray := prog_3_method_1_code
def yX1_init : MethodName := ⟨RX1, "<init>", "(LBranchRelaxer$Program;LBranchRelaxer$Links;LBranchRelaxer$Layout;)V"⟩
abbrev cX1_choicesFound : ByteArray := prog_3_method_2_code
def yX1_choicesFound : MethodName := ⟨RX1, "choicesFound", "()I"⟩
abbrev cX1_least : ByteArray := prog_3_method_3_code
def yX1_least : MethodName := ⟨RX1, "least", "()I"⟩
abbrev cX1_takeBest : ByteArray := prog_3_method_4_code
def yX1_takeBest : MethodName := ⟨RX1, "takeBest", "()V"⟩
abbrev cX1_run : ByteArray := prog_3_method_5_code
def yX1_run : MethodName := ⟨RX1, "run", "()V"⟩
abbrev cX1_tryFrom : ByteArray := prog_3_method_6_code
def yX1_tryFrom : MethodName := ⟨RX1, "tryFrom", "(III)V"⟩
abbrev cX1_tryForms : ByteArray := prog_3_method_7_code
def yX1_tryForms : MethodName := ⟨RX1, "tryForms", "(II)V"⟩
abbrev cX1_placeUpToTransfer : ByteArray := prog_3_method_8_code
def yX1_placeUpToTransfer : MethodName := ⟨RX1, "placeUpToTransfer", "(II)I"⟩
abbrev cX1_fitsBackward : ByteArray := prog_3_method_9_code
def yX1_fitsBackward : MethodName := ⟨RX1, "fitsBackward", "(III)Z"⟩
abbrev cX1_allFitForward : ByteArray := prog_3_method_10_code
def yX1_allFitForward : MethodName := ⟨RX1, "allFitForward", "(I)Z"⟩
abbrev cX1_keep : ByteArray := prog_3_method_11_code
def yX1_keep : MethodName := ⟨RX1, "keep", "(I)V"⟩
def RX2 : String := "BranchRelaxer$History"
def TX2 : u_T := fun k => match k with
  | 0 => ("BranchRelaxer$History", "past", "[LBranchRelaxer$Program;", true)
  | 1 => ("BranchRelaxer$History", "newest", "I", false)
  | _ => ("BranchRelaxer$History", "remembered", "I", false)
def tyX2 : Nat → FieldType := fun k => match k with
  | 0 => .array (.object "BranchRelaxer$Program")
  | 1 => .int
  | _ => .int
abbrev wsX20 : List Cond := u_ws RX2 TX2 3
theorem nmX2 : ∀ a, a < 3 → ∀ b, b < 3 → a ≠ b → (TX2 a).2.1 ≠ (TX2 b).2.1 := by decide +kernel
theorem tyX2_ok : ∀ k, k < 3 → parseFieldDescriptor (TX2 k).2.2.1 = some (tyX2 k) := by decide +kernel
abbrev cX2_init : ByteArray := prog_4_method_1_code
def yX2_init : MethodName := ⟨RX2, "<init>", "()V"⟩
abbrev cX2_isEmpty : ByteArray := prog_4_method_2_code
def yX2_isEmpty : MethodName := ⟨RX2, "isEmpty", "()Z"⟩
abbrev cX2_remember : ByteArray := prog_4_method_3_code
def yX2_remember : MethodName := ⟨RX2, "remember", "(LBranchRelaxer$Program;)V"⟩
abbrev cX2_takeBack : ByteArray := prog_4_method_4_code
def yX2_takeBack : MethodName := ⟨RX2, "takeBack", "(LBranchRelaxer$Program;)I"⟩
abbrev cX2_forget : ByteArray := prog_4_method_5_code
def yX2_forget : MethodName := ⟨RX2, "forget", "()V"⟩
def RX3 : String := "BranchRelaxer$ItemText"
def TX3 : u_T := fun k => match k with
  | 0 => ("BranchRelaxer$ItemText", "text", "[C", true)
  | 1 => ("BranchRelaxer$ItemText", "length", "I", false)
  | 2 => ("BranchRelaxer$ItemText", "kind", "I", false)
  | 3 => ("BranchRelaxer$ItemText", "operand", "I", false)
  | _ => ("BranchRelaxer$ItemText", "error", "I", false)
def tyX3 : Nat → FieldType := fun k => match k with
  | 0 => .array .char
  | 1 => .int
  | 2 => .int
  | 3 => .int
  | _ => .int
abbrev wsX30 : List Cond := u_ws RX3 TX3 5
theorem nmX3 : ∀ a, a < 5 → ∀ b, b < 5 → a ≠ b → (TX3 a).2.1 ≠ (TX3 b).2.1 := by decide +kernel
theorem tyX3_ok : ∀ k, k < 5 → parseFieldDescriptor (TX3 k).2.2.1 = some (tyX3 k) := by decide +kernel
abbrev cX3_init : ByteArray := prog_5_method_1_code
def yX3_init : MethodName := ⟨RX3, "<init>", "()V"⟩
abbrev cX3_isFull : ByteArray := prog_5_method_2_code
def yX3_isFull : MethodName := ⟨RX3, "isFull", "()Z"⟩
abbrev cX3_add : ByteArray := prog_5_method_3_code
def yX3_add : MethodName := ⟨RX3, "add", "(C)I"⟩
abbrev cX3_read : ByteArray := prog_5_method_4_code
def yX3_read : MethodName := ⟨RX3, "read", "()V"⟩
abbrev cX3_isItem : ByteArray := prog_5_method_5_code
def yX3_isItem : MethodName := ⟨RX3, "isItem", "()Z"⟩
abbrev cX3_kindRead : ByteArray := prog_5_method_6_code
def yX3_kindRead : MethodName := ⟨RX3, "kindRead", "()I"⟩
abbrev cX3_operandRead : ByteArray := prog_5_method_7_code
def yX3_operandRead : MethodName := ⟨RX3, "operandRead", "()I"⟩
abbrev cX3_errorIndex : ByteArray := prog_5_method_8_code
def yX3_errorIndex : MethodName := ⟨RX3, "errorIndex", "()I"⟩
abbrev cX3_leastLength : ByteArray := prog_5_method_9_code
def yX3_leastLength : MethodName := ⟨RX3, "leastLength", "(I)I"⟩
abbrev cX3_matchedBy : ByteArray := prog_5_method_10_code
def yX3_matchedBy : MethodName := ⟨RX3, "matchedBy", "(I)I"⟩
abbrev cX3_numberFrom : ByteArray := prog_5_method_11_code
def yX3_numberFrom : MethodName := ⟨RX3, "numberFrom", "(I)I"⟩
def RX4 : String := "BranchRelaxer$Layout"
def TX4 : u_T := fun k => match k with
  | 0 => ("BranchRelaxer$Layout", "program", "LBranchRelaxer$Program;", true)
  | 1 => ("BranchRelaxer$Layout", "links", "LBranchRelaxer$Links;", true)
  | _ => ("BranchRelaxer$Layout", "addresses", "[I", true)
def tyX4 : Nat → FieldType := fun k => match k with
  | 0 => .object "BranchRelaxer$Program"
  | 1 => .object "BranchRelaxer$Links"
  | _ => .array .int
abbrev wsX40 : List Cond := u_ws RX4 TX4 3
theorem nmX4 : ∀ a, a < 3 → ∀ b, b < 3 → a ≠ b → (TX4 a).2.1 ≠ (TX4 b).2.1 := by decide +kernel
theorem tyX4_ok : ∀ k, k < 3 → parseFieldDescriptor (TX4 k).2.2.1 = some (tyX4 k) := by decide +kernel
abbrev cX4_init : ByteArray := prog_6_method_1_code
def yX4_init : MethodName := ⟨RX4, "<init>", "(LBranchRelaxer$Program;LBranchRelaxer$Links;)V"⟩
abbrev cX4_compute : ByteArray := prog_6_method_2_code
def yX4_compute : MethodName := ⟨RX4, "compute", "()V"⟩
abbrev cX4_sizeWith : ByteArray := prog_6_method_3_code
def yX4_sizeWith : MethodName := ⟨RX4, "sizeWith", "(III)I"⟩
abbrev cX4_poolSize : ByteArray := prog_6_method_4_code
def yX4_poolSize : MethodName := ⟨RX4, "poolSize", "(II)I"⟩
abbrev cX4_addressAt : ByteArray := prog_6_method_5_code
def yX4_addressAt : MethodName := ⟨RX4, "addressAt", "(I)I"⟩
abbrev cX4_sizeAt : ByteArray := prog_6_method_6_code
def yX4_sizeAt : MethodName := ⟨RX4, "sizeAt", "(I)I"⟩
abbrev cX4_sizeOfItems : ByteArray := prog_6_method_7_code
def yX4_sizeOfItems : MethodName := ⟨RX4, "sizeOfItems", "()I"⟩
abbrev cX4_sizeWithEndPool : ByteArray := prog_6_method_8_code
def yX4_sizeWithEndPool : MethodName := ⟨RX4, "sizeWithEndPool", "()I"⟩
abbrev cX4_paddingBytes : ByteArray := prog_6_method_9_code
def yX4_paddingBytes : MethodName := ⟨RX4, "paddingBytes", "()I"⟩
abbrev cX4_lastItemUpTo : ByteArray := prog_6_method_10_code
def yX4_lastItemUpTo : MethodName := ⟨RX4, "lastItemUpTo", "(I)I"⟩
abbrev cX4_addressWith : ByteArray := prog_6_method_11_code
def yX4_addressWith : MethodName := ⟨RX4, "addressWith", "(II)I"⟩
abbrev cX4_addressOfLiteral : ByteArray := prog_6_method_12_code
def yX4_addressOfLiteral : MethodName := ⟨RX4, "addressOfLiteral", "(III)I"⟩
abbrev cX4_distanceWith : ByteArray := prog_6_method_13_code
def yX4_distanceWith : MethodName := ⟨RX4, "distanceWith", "(II)I"⟩
abbrev cX4_loadsBeyondReach : ByteArray := prog_6_method_14_code
def yX4_loadsBeyondReach : MethodName := ⟨RX4, "loadsBeyondReach", "()I"⟩
abbrev cX4_slackOf : ByteArray := prog_6_method_15_code
def yX4_slackOf : MethodName := ⟨RX4, "slackOf", "(I)I"⟩
def RX5 : String := "BranchRelaxer$Links"
def TX5 : u_T := fun k => match k with
  | 0 => ("BranchRelaxer$Links", "program", "LBranchRelaxer$Program;", true)
  | 1 => ("BranchRelaxer$Links", "definers", "[I", true)
  | 2 => ("BranchRelaxer$Links", "pools", "[I", true)
  | 3 => ("BranchRelaxer$Links", "literalIndexes", "[I", true)
  | 4 => ("BranchRelaxer$Links", "poolItems", "[I", true)
  | 5 => ("BranchRelaxer$Links", "literalCounts", "[I", true)
  | 6 => ("BranchRelaxer$Links", "lastPoolWith", "[I", true)
  | 7 => ("BranchRelaxer$Links", "lastIndexOf", "[I", true)
  | _ => ("BranchRelaxer$Links", "endPool", "I", false)
def tyX5 : Nat → FieldType := fun k => match k with
  | 0 => .object "BranchRelaxer$Program"
  | 1 => .array .int
  | 2 => .array .int
  | 3 => .array .int
  | 4 => .array .int
  | 5 => .array .int
  | 6 => .array .int
  | 7 => .array .int
  | _ => .int
abbrev wsX50 : List Cond := u_ws RX5 TX5 9
theorem nmX5 : ∀ a, a < 9 → ∀ b, b < 9 → a ≠ b → (TX5 a).2.1 ≠ (TX5 b).2.1 := by decide +kernel
theorem tyX5_ok : ∀ k, k < 9 → parseFieldDescriptor (TX5 k).2.2.1 = some (tyX5 k) := by decide +kernel
abbrev cX5_init : ByteArray := prog_7_method_1_code
def yX5_init : MethodName := ⟨RX5, "<init>", "(LBranchRelaxer$Program;)V"⟩
abbrev cX5_read : ByteArray := prog_7_method_2_code
def yX5_read : MethodName := ⟨RX5, "read", "()V"⟩
abbrev cX5_readItem : ByteArray := prog_7_method_3_code
def yX5_readItem : MethodName := ⟨RX5, "readItem", "(I)V"⟩
abbrev cX5_readLoad : ByteArray := prog_7_method_4_code
def yX5_readLoad : MethodName := ⟨RX5, "readLoad", "(II)V"⟩
abbrev cX5_definerOf : ByteArray := prog_7_method_5_code
def yX5_definerOf : MethodName := ⟨RX5, "definerOf", "(I)I"⟩
abbrev cX5_endPoolNumber : ByteArray := prog_7_method_6_code
def yX5_endPoolNumber : MethodName := ⟨RX5, "endPoolNumber", "()I"⟩
abbrev cX5_poolAt : ByteArray := prog_7_method_7_code
def yX5_poolAt : MethodName := ⟨RX5, "poolAt", "(I)I"⟩
abbrev cX5_literalIndexAt : ByteArray := prog_7_method_8_code
def yX5_literalIndexAt : MethodName := ⟨RX5, "literalIndexAt", "(I)I"⟩
abbrev cX5_literalsIn : ByteArray := prog_7_method_9_code
def yX5_literalsIn : MethodName := ⟨RX5, "literalsIn", "(I)I"⟩
abbrev cX5_itemOfPool : ByteArray := prog_7_method_10_code
def yX5_itemOfPool : MethodName := ⟨RX5, "itemOfPool", "(I)I"⟩
abbrev cX5_valueOf : ByteArray := prog_7_method_11_code
def yX5_valueOf : MethodName := ⟨RX5, "valueOf", "(II)I"⟩
def RX6 : String := "BranchRelaxer$Program"
def TX6 : u_T := fun k => match k with
  | 0 => ("BranchRelaxer$Program", "kinds", "[I", true)
  | 1 => ("BranchRelaxer$Program", "operands", "[I", true)
  | 2 => ("BranchRelaxer$Program", "forms", "[I", true)
  | _ => ("BranchRelaxer$Program", "count", "I", false)
def tyX6 : Nat → FieldType := fun k => match k with
  | 0 => .array .int
  | 1 => .array .int
  | 2 => .array .int
  | _ => .int
abbrev wsX60 : List Cond := u_ws RX6 TX6 4
theorem nmX6 : ∀ a, a < 4 → ∀ b, b < 4 → a ≠ b → (TX6 a).2.1 ≠ (TX6 b).2.1 := by decide +kernel
theorem tyX6_ok : ∀ k, k < 4 → parseFieldDescriptor (TX6 k).2.2.1 = some (tyX6 k) := by decide +kernel
abbrev cX6_init : ByteArray := prog_8_method_1_code
def yX6_init : MethodName := ⟨RX6, "<init>", "()V"⟩
abbrev cX6_count : ByteArray := prog_8_method_2_code
def yX6_count : MethodName := ⟨RX6, "count", "()I"⟩
abbrev cX6_isFull : ByteArray := prog_8_method_3_code
def yX6_isFull : MethodName := ⟨RX6, "isFull", "()Z"⟩
abbrev cX6_has : ByteArray := prog_8_method_4_code
def yX6_has : MethodName := ⟨RX6, "has", "(I)Z"⟩
abbrev cX6_kindAt : ByteArray := prog_8_method_5_code
def yX6_kindAt : MethodName := ⟨RX6, "kindAt", "(I)I"⟩
abbrev cX6_operandAt : ByteArray := prog_8_method_6_code
def yX6_operandAt : MethodName := ⟨RX6, "operandAt", "(I)I"⟩
abbrev cX6_formAt : ByteArray := prog_8_method_7_code
def yX6_formAt : MethodName := ⟨RX6, "formAt", "(I)I"⟩
abbrev cX6_isTransfer : ByteArray := prog_8_method_8_code
def yX6_isTransfer : MethodName := ⟨RX6, "isTransfer", "(I)Z"⟩
abbrev cX6_defines : ByteArray := prog_8_method_9_code
def yX6_defines : MethodName := ⟨RX6, "defines", "(I)Z"⟩
abbrev cX6_clear : ByteArray := prog_8_method_10_code
def yX6_clear : MethodName := ⟨RX6, "clear", "()V"⟩
abbrev cX6_putForm : ByteArray := prog_8_method_11_code
def yX6_putForm : MethodName := ⟨RX6, "putForm", "(II)V"⟩
abbrev cX6_putAt : ByteArray := prog_8_method_12_code
def yX6_putAt : MethodName := ⟨RX6, "putAt", "(IIII)V"⟩
abbrev cX6_takeOut : ByteArray := prog_8_method_13_code
def yX6_takeOut : MethodName := ⟨RX6, "takeOut", "(I)V"⟩
abbrev cX6_copyFrom : ByteArray := prog_8_method_14_code
def yX6_copyFrom : MethodName := ⟨RX6, "copyFrom", "(LBranchRelaxer$Program;)V"⟩
def RX7 : String := "BranchRelaxer$Transfers"
def TX7 : u_T := fun k => match k with
  | 0 => ("BranchRelaxer$Transfers", "program", "LBranchRelaxer$Program;", true)
  | 1 => ("BranchRelaxer$Transfers", "links", "LBranchRelaxer$Links;", true)
  | _ => ("BranchRelaxer$Transfers", "layout", "LBranchRelaxer$Layout;", true)
def tyX7 : Nat → FieldType := fun k => match k with
  | 0 => .object "BranchRelaxer$Program"
  | 1 => .object "BranchRelaxer$Links"
  | _ => .object "BranchRelaxer$Layout"
abbrev wsX70 : List Cond := u_ws RX7 TX7 3
theorem nmX7 : ∀ a, a < 3 → ∀ b, b < 3 → a ≠ b → (TX7 a).2.1 ≠ (TX7 b).2.1 := by decide +kernel
theorem tyX7_ok : ∀ k, k < 3 → parseFieldDescriptor (TX7 k).2.2.1 = some (tyX7 k) := by decide +kernel
abbrev cX7_init : ByteArray := prog_9_method_1_code
def yX7_init : MethodName := ⟨RX7, "<init>", "(LBranchRelaxer$Program;LBranchRelaxer$Links;LBranchRelaxer$Layout;)V"⟩
abbrev cX7_number : ByteArray := prog_9_method_2_code
def yX7_number : MethodName := ⟨RX7, "number", "()I"⟩
abbrev cX7_numberWith : ByteArray := prog_9_method_3_code
def yX7_numberWith : MethodName := ⟨RX7, "numberWith", "(I)I"⟩
abbrev cX7_sumOfForms : ByteArray := prog_9_method_4_code
def yX7_sumOfForms : MethodName := ⟨RX7, "sumOfForms", "()I"⟩
abbrev cX7_isDefined : ByteArray := prog_9_method_5_code
def yX7_isDefined : MethodName := ⟨RX7, "isDefined", "(I)Z"⟩
abbrev cX7_numberUndefined : ByteArray := prog_9_method_6_code
def yX7_numberUndefined : MethodName := ⟨RX7, "numberUndefined", "()I"⟩
abbrev cX7_displacementAt : ByteArray := prog_9_method_7_code
def yX7_displacementAt : MethodName := ⟨RX7, "displacementAt", "(I)I"⟩
abbrev cX7_isFitting : ByteArray := prog_9_method_8_code
def yX7_isFitting : MethodName := ⟨RX7, "isFitting", "(I)Z"⟩
abbrev cX7_numberMisfitting : ByteArray := prog_9_method_9_code
def yX7_numberMisfitting : MethodName := ⟨RX7, "numberMisfitting", "()I"⟩
abbrev cX7_growAll : ByteArray := prog_9_method_10_code
def yX7_growAll : MethodName := ⟨RX7, "growAll", "()I"⟩
abbrev cX7_growMisfits : ByteArray := prog_9_method_11_code
def yX7_growMisfits : MethodName := ⟨RX7, "growMisfits", "()Z"⟩
abbrev cX7_shrinkAll : ByteArray := prog_9_method_12_code
def yX7_shrinkAll : MethodName := ⟨RX7, "shrinkAll", "()I"⟩
abbrev cX7_shrinkIfAllFit : ByteArray := prog_9_method_13_code
def yX7_shrinkIfAllFit : MethodName := ⟨RX7, "shrinkIfAllFit", "(I)Z"⟩
def RX8 : String := "BranchRelaxer"
def TX8 : u_T := fun k => match k with
  | 0 => ("BranchRelaxer", "program", "LBranchRelaxer$Program;", true)
  | 1 => ("BranchRelaxer", "saved", "LBranchRelaxer$Program;", true)
  | 2 => ("BranchRelaxer", "history", "LBranchRelaxer$History;", true)
  | 3 => ("BranchRelaxer", "input", "LBranchRelaxer$ItemText;", true)
  | 4 => ("BranchRelaxer", "links", "LBranchRelaxer$Links;", true)
  | 5 => ("BranchRelaxer", "layout", "LBranchRelaxer$Layout;", true)
  | 6 => ("BranchRelaxer", "transfers", "LBranchRelaxer$Transfers;", true)
  | 7 => ("BranchRelaxer", "search", "LBranchRelaxer$FormSearch;", true)
  | 8 => ("BranchRelaxer", "reachable", "LBranchRelaxer$AddressSet;", true)
  | 9 => ("BranchRelaxer", "somethingSaved", "Z", false)
  | _ => ("BranchRelaxer", "keptError", "I", false)
def tyX8 : Nat → FieldType := fun k => match k with
  | 0 => .object "BranchRelaxer$Program"
  | 1 => .object "BranchRelaxer$Program"
  | 2 => .object "BranchRelaxer$History"
  | 3 => .object "BranchRelaxer$ItemText"
  | 4 => .object "BranchRelaxer$Links"
  | 5 => .object "BranchRelaxer$Layout"
  | 6 => .object "BranchRelaxer$Transfers"
  | 7 => .object "BranchRelaxer$FormSearch"
  | 8 => .object "BranchRelaxer$AddressSet"
  | 9 => .boolean
  | _ => .int
abbrev wsX80 : List Cond := u_ws RX8 TX8 11
theorem nmX8 : ∀ a, a < 11 → ∀ b, b < 11 → a ≠ b → (TX8 a).2.1 ≠ (TX8 b).2.1 := by decide +kernel
theorem tyX8_ok : ∀ k, k < 11 → parseFieldDescriptor (TX8 k).2.2.1 = some (tyX8 k) := by decide +kernel
abbrev cX8_init : ByteArray := prog_1_method_1_code
def yX8_init : MethodName := ⟨RX8, "<init>", "()V"⟩
abbrev cX8_reset : ByteArray := prog_1_method_2_code
def yX8_reset : MethodName := ⟨RX8, "reset", "()I"⟩
abbrev cX8_itemCount : ByteArray := prog_1_method_3_code
def yX8_itemCount : MethodName := ⟨RX8, "itemCount", "()I"⟩
abbrev cX8_append : ByteArray := prog_1_method_4_code
def yX8_append : MethodName := ⟨RX8, "append", "(C)I"⟩
abbrev cX8_insert : ByteArray := prog_1_method_5_code
def yX8_insert : MethodName := ⟨RX8, "insert", "(I)I"⟩
abbrev cX8_errorPosition : ByteArray := prog_1_method_6_code
def yX8_errorPosition : MethodName := ⟨RX8, "errorPosition", "()I"⟩
abbrev cX8_remove : ByteArray := prog_1_method_7_code
def yX8_remove : MethodName := ⟨RX8, "remove", "(I)I"⟩
abbrev cX8_move : ByteArray := prog_1_method_8_code
def yX8_move : MethodName := ⟨RX8, "move", "(II)I"⟩
abbrev cX8_item : ByteArray := prog_1_method_9_code
def yX8_item : MethodName := ⟨RX8, "item", "(II)I"⟩
abbrev cX8_nameCharacter : ByteArray := prog_1_method_10_code
def yX8_nameCharacter : MethodName := ⟨RX8, "nameCharacter", "(II)C"⟩
abbrev cX8_setForm : ByteArray := prog_1_method_11_code
def yX8_setForm : MethodName := ⟨RX8, "setForm", "(II)I"⟩
abbrev cX8_totalSize : ByteArray := prog_1_method_12_code
def yX8_totalSize : MethodName := ⟨RX8, "totalSize", "()I"⟩
abbrev cX8_padding : ByteArray := prog_1_method_13_code
def yX8_padding : MethodName := ⟨RX8, "padding", "()I"⟩
abbrev cX8_labelAddress : ByteArray := prog_1_method_14_code
def yX8_labelAddress : MethodName := ⟨RX8, "labelAddress", "(I)I"⟩
abbrev cX8_itemAt : ByteArray := prog_1_method_15_code
def yX8_itemAt : MethodName := ⟨RX8, "itemAt", "(I)I"⟩
abbrev cX8_addressIf : ByteArray := prog_1_method_16_code
def yX8_addressIf : MethodName := ⟨RX8, "addressIf", "(II)I"⟩
abbrev cX8_possibleAddresses : ByteArray := prog_1_method_17_code
def yX8_possibleAddresses : MethodName := ⟨RX8, "possibleAddresses", "(I)I"⟩
abbrev cX8_transferCount : ByteArray := prog_1_method_18_code
def yX8_transferCount : MethodName := ⟨RX8, "transferCount", "()I"⟩
abbrev cX8_formCount : ByteArray := prog_1_method_19_code
def yX8_formCount : MethodName := ⟨RX8, "formCount", "(I)I"⟩
abbrev cX8_undefinedCount : ByteArray := prog_1_method_20_code
def yX8_undefinedCount : MethodName := ⟨RX8, "undefinedCount", "()I"⟩
abbrev cX8_displacement : ByteArray := prog_1_method_21_code
def yX8_displacement : MethodName := ⟨RX8, "displacement", "(I)I"⟩
abbrev cX8_fits : ByteArray := prog_1_method_22_code
def yX8_fits : MethodName := ⟨RX8, "fits", "(I)Z"⟩
abbrev cX8_misfits : ByteArray := prog_1_method_23_code
def yX8_misfits : MethodName := ⟨RX8, "misfits", "()I"⟩
abbrev cX8_neededForm : ByteArray := prog_1_method_24_code
def yX8_neededForm : MethodName := ⟨RX8, "neededForm", "(I)I"⟩
abbrev cX8_relax : ByteArray := prog_1_method_25_code
def yX8_relax : MethodName := ⟨RX8, "relax", "()I"⟩
abbrev cX8_shrink : ByteArray := prog_1_method_26_code
def yX8_shrink : MethodName := ⟨RX8, "shrink", "()I"⟩
abbrev cX8_leastSize : ByteArray := prog_1_method_27_code
def yX8_leastSize : MethodName := ⟨RX8, "leastSize", "()I"⟩
abbrev cX8_optimize : ByteArray := prog_1_method_28_code
def yX8_optimize : MethodName := ⟨RX8, "optimize", "()I"⟩
abbrev cX8_consistentChoices : ByteArray := prog_1_method_29_code
def yX8_consistentChoices : MethodName := ⟨RX8, "consistentChoices", "()I"⟩
abbrev cX8_averageForm : ByteArray := prog_1_method_30_code
def yX8_averageForm : MethodName := ⟨RX8, "averageForm", "()D"⟩
abbrev cX8_poolCount : ByteArray := prog_1_method_31_code
def yX8_poolCount : MethodName := ⟨RX8, "poolCount", "()I"⟩
abbrev cX8_literalCount : ByteArray := prog_1_method_32_code
def yX8_literalCount : MethodName := ⟨RX8, "literalCount", "(I)I"⟩
abbrev cX8_literal : ByteArray := prog_1_method_33_code
def yX8_literal : MethodName := ⟨RX8, "literal", "(II)I"⟩
abbrev cX8_literalAddress : ByteArray := prog_1_method_34_code
def yX8_literalAddress : MethodName := ⟨RX8, "literalAddress", "(II)I"⟩
abbrev cX8_poolOf : ByteArray := prog_1_method_35_code
def yX8_poolOf : MethodName := ⟨RX8, "poolOf", "(I)I"⟩
abbrev cX8_distance : ByteArray := prog_1_method_36_code
def yX8_distance : MethodName := ⟨RX8, "distance", "(I)I"⟩
abbrev cX8_loadsOutOfReach : ByteArray := prog_1_method_37_code
def yX8_loadsOutOfReach : MethodName := ⟨RX8, "loadsOutOfReach", "()I"⟩
abbrev cX8_slack : ByteArray := prog_1_method_38_code
def yX8_slack : MethodName := ⟨RX8, "slack", "(I)I"⟩
abbrev cX8_undo : ByteArray := prog_1_method_39_code
def yX8_undo : MethodName := ⟨RX8, "undo", "()I"⟩
abbrev cX8_save : ByteArray := prog_1_method_40_code
def yX8_save : MethodName := ⟨RX8, "save", "()I"⟩
abbrev cX8_restore : ByteArray := prog_1_method_41_code
def yX8_restore : MethodName := ⟨RX8, "restore", "()I"⟩
abbrev cX8_freshLayout : ByteArray := prog_1_method_42_code
def yX8_freshLayout : MethodName := ⟨RX8, "freshLayout", "()LBranchRelaxer$Layout;"⟩
abbrev cX8_requireItem : ByteArray := prog_1_method_43_code
def yX8_requireItem : MethodName := ⟨RX8, "requireItem", "(I)V"⟩
abbrev cX8_requireTransfer : ByteArray := prog_1_method_44_code
def yX8_requireTransfer : MethodName := ⟨RX8, "requireTransfer", "(I)V"⟩
abbrev cX8_requireForm : ByteArray := prog_1_method_45_code
def yX8_requireForm : MethodName := ⟨RX8, "requireForm", "(I)V"⟩
abbrev cX8_requireLoad : ByteArray := prog_1_method_46_code
def yX8_requireLoad : MethodName := ⟨RX8, "requireLoad", "(I)V"⟩
abbrev cX8_requireTarget : ByteArray := prog_1_method_47_code
def yX8_requireTarget : MethodName := ⟨RX8, "requireTarget", "(I)V"⟩
abbrev cX8_requireAllDefined : ByteArray := prog_1_method_48_code
def yX8_requireAllDefined : MethodName := ⟨RX8, "requireAllDefined", "()V"⟩
abbrev cX8_requireSearchable : ByteArray := prog_1_method_49_code
def yX8_requireSearchable : MethodName := ⟨RX8, "requireSearchable", "()V"⟩
abbrev cX8_requirePool : ByteArray := prog_1_method_50_code
def yX8_requirePool : MethodName := ⟨RX8, "requirePool", "(I)V"⟩
abbrev cX8_requireLiteral : ByteArray := prog_1_method_51_code
def yX8_requireLiteral : MethodName := ⟨RX8, "requireLiteral", "(II)V"⟩
abbrev cX8_nameOf : ByteArray := prog_1_method_52_code
def yX8_nameOf : MethodName := ⟨RX8, "nameOf", "(I)Ljava/lang/String;"⟩
abbrev cX8_isOperand : ByteArray := prog_1_method_53_code
def yX8_isOperand : MethodName := ⟨RX8, "isOperand", "(II)Z"⟩
abbrev cX8_formFor : ByteArray := prog_1_method_54_code
def yX8_formFor : MethodName := ⟨RX8, "formFor", "(I)I"⟩
abbrev cX8_jumpSize : ByteArray := prog_1_method_55_code
def yX8_jumpSize : MethodName := ⟨RX8, "jumpSize", "(I)I"⟩
abbrev cX8_branchSize : ByteArray := prog_1_method_56_code
def yX8_branchSize : MethodName := ⟨RX8, "branchSize", "(I)I"⟩
abbrev cX8_gapTo : ByteArray := prog_1_method_57_code
def yX8_gapTo : MethodName := ⟨RX8, "gapTo", "(II)I"⟩
def RX9 : String := "BranchRelaxerModel"
def TX9 : u_T := fun k => match k with
  | 0 => ("BranchRelaxerModel", "thrown", "I", false)
  | 1 => ("BranchRelaxerModel", "p", "[I", true)
  | 2 => ("BranchRelaxerModel", "history", "[I", true)
  | 3 => ("BranchRelaxerModel", "historyMany", "I", false)
  | 4 => ("BranchRelaxerModel", "saved", "[I", true)
  | 5 => ("BranchRelaxerModel", "hasSaved", "Z", false)
  | 6 => ("BranchRelaxerModel", "tape", "[C", true)
  | 7 => ("BranchRelaxerModel", "taped", "I", false)
  | 8 => ("BranchRelaxerModel", "wrongAt", "I", false)
  | 9 => ("BranchRelaxerModel", "places", "[I", true)
  | 10 => ("BranchRelaxerModel", "values", "[I", true)
  | 11 => ("BranchRelaxerModel", "valueMany", "I", false)
  | 12 => ("BranchRelaxerModel", "names", "[I", true)
  | 13 => ("BranchRelaxerModel", "isWhole", "Z", false)
  | 14 => ("BranchRelaxerModel", "readNumber", "I", false)
  | 15 => ("BranchRelaxerModel", "can", "[Z", true)
  | 16 => ("BranchRelaxerModel", "then", "[Z", true)
  | 17 => ("BranchRelaxerModel", "next", "[I", true)
  | 18 => ("BranchRelaxerModel", "bestChoice", "I", false)
  | 19 => ("BranchRelaxerModel", "bestSize", "I", false)
  | _ => ("BranchRelaxerModel", "goodMany", "I", false)
def tyX9 : Nat → FieldType := fun k => match k with
  | 0 => .int
  | 1 => .array .int
  | 2 => .array .int
  | 3 => .int
  | 4 => .array .int
  | 5 => .boolean
  | 6 => .array .char
  | 7 => .int
  | 8 => .int
  | 9 => .array .int
  | 10 => .array .int
  | 11 => .int
  | 12 => .array .int
  | 13 => .boolean
  | 14 => .int
  | 15 => .array .boolean
  | 16 => .array .boolean
  | 17 => .array .int
  | 18 => .int
  | 19 => .int
  | _ => .int
abbrev wsX90 : List Cond := u_ws RX9 TX9 21
theorem nmX9 : ∀ a, a < 21 → ∀ b, b < 21 → a ≠ b → (TX9 a).2.1 ≠ (TX9 b).2.1 := by decide +kernel
theorem tyX9_ok : ∀ k, k < 21 → parseFieldDescriptor (TX9 k).2.2.1 = some (tyX9 k) := by decide +kernel
abbrev cX9_init : ByteArray := prog_11_method_1_code
def yX9_init : MethodName := ⟨RX9, "<init>", "()V"⟩
abbrev cX9_thrown : ByteArray := prog_11_method_2_code
def yX9_thrown : MethodName := ⟨RX9, "thrown", "()I"⟩
abbrev cX9_in : ByteArray := prog_11_method_3_code
def yX9_in : MethodName := ⟨RX9, "in", "(III)Z"⟩
abbrev cX9_fails : ByteArray := prog_11_method_4_code
def yX9_fails : MethodName := ⟨RX9, "fails", "(I)I"⟩
abbrev cX9_done : ByteArray := prog_11_method_5_code
def yX9_done : MethodName := ⟨RX9, "done", "(I)I"⟩
abbrev cX9_kind : ByteArray := prog_11_method_6_code
def yX9_kind : MethodName := ⟨RX9, "kind", "(I)I"⟩
abbrev cX9_operand : ByteArray := prog_11_method_7_code
def yX9_operand : MethodName := ⟨RX9, "operand", "(I)I"⟩
abbrev cX9_form : ByteArray := prog_11_method_8_code
def yX9_form : MethodName := ⟨RX9, "form", "(I)I"⟩
abbrev cX9_forms : ByteArray := prog_11_method_9_code
def yX9_forms : MethodName := ⟨RX9, "forms", "(II)V"⟩
abbrev cX9_isItem : ByteArray := prog_11_method_10_code
def yX9_isItem : MethodName := ⟨RX9, "isItem", "(I)Z"⟩
abbrev cX9_isTransfer : ByteArray := prog_11_method_11_code
def yX9_isTransfer : MethodName := ⟨RX9, "isTransfer", "(I)Z"⟩
abbrev cX9_remembers : ByteArray := prog_11_method_12_code
def yX9_remembers : MethodName := ⟨RX9, "remembers", "()V"⟩
abbrev cX9_tellValues : ByteArray := prog_11_method_13_code
def yX9_tellValues : MethodName := ⟨RX9, "tellValues", "(I)V"⟩
abbrev cX9_valueAt : ByteArray := prog_11_method_14_code
def yX9_valueAt : MethodName := ⟨RX9, "valueAt", "(I)I"⟩
abbrev cX9_upTo : ByteArray := prog_11_method_15_code
def yX9_upTo : MethodName := ⟨RX9, "upTo", "(II)I"⟩
abbrev cX9_poolSize : ByteArray := prog_11_method_16_code
def yX9_poolSize : MethodName := ⟨RX9, "poolSize", "(II)I"⟩
abbrev cX9_transferSize : ByteArray := prog_11_method_17_code
def yX9_transferSize : MethodName := ⟨RX9, "transferSize", "(II)I"⟩
abbrev cX9_sizeAt : ByteArray := prog_11_method_18_code
def yX9_sizeAt : MethodName := ⟨RX9, "sizeAt", "(III)I"⟩
abbrev cX9_lays : ByteArray := prog_11_method_19_code
def yX9_lays : MethodName := ⟨RX9, "lays", "()V"⟩
abbrev cX9_total : ByteArray := prog_11_method_20_code
def yX9_total : MethodName := ⟨RX9, "total", "()I"⟩
abbrev cX9_defines : ByteArray := prog_11_method_21_code
def yX9_defines : MethodName := ⟨RX9, "defines", "(I)I"⟩
abbrev cX9_reset : ByteArray := prog_11_method_22_code
def yX9_reset : MethodName := ⟨RX9, "reset", "()I"⟩
abbrev cX9_itemCount : ByteArray := prog_11_method_23_code
def yX9_itemCount : MethodName := ⟨RX9, "itemCount", "()I"⟩
abbrev cX9_append : ByteArray := prog_11_method_24_code
def yX9_append : MethodName := ⟨RX9, "append", "(C)I"⟩
abbrev cX9_nameSize : ByteArray := prog_11_method_25_code
def yX9_nameSize : MethodName := ⟨RX9, "nameSize", "(I)I"⟩
abbrev cX9_isFigure : ByteArray := prog_11_method_26_code
def yX9_isFigure : MethodName := ⟨RX9, "isFigure", "(I)Z"⟩
abbrev cX9_goes : ByteArray := prog_11_method_27_code
def yX9_goes : MethodName := ⟨RX9, "goes", "(I)I"⟩
abbrev cX9_isOperand : ByteArray := prog_11_method_28_code
def yX9_isOperand : MethodName := ⟨RX9, "isOperand", "(II)Z"⟩
abbrev cX9_opens : ByteArray := prog_11_method_29_code
def yX9_opens : MethodName := ⟨RX9, "opens", "(I)V"⟩
abbrev cX9_puts : ByteArray := prog_11_method_30_code
def yX9_puts : MethodName := ⟨RX9, "puts", "(IIII)V"⟩
abbrev cX9_closes : ByteArray := prog_11_method_31_code
def yX9_closes : MethodName := ⟨RX9, "closes", "(I)V"⟩
abbrev cX9_insert : ByteArray := prog_11_method_32_code
def yX9_insert : MethodName := ⟨RX9, "insert", "(I)I"⟩
abbrev cX9_errorPosition : ByteArray := prog_11_method_33_code
def yX9_errorPosition : MethodName := ⟨RX9, "errorPosition", "()I"⟩
abbrev cX9_remove : ByteArray := prog_11_method_34_code
def yX9_remove : MethodName := ⟨RX9, "remove", "(I)I"⟩
abbrev cX9_move : ByteArray := prog_11_method_35_code
def yX9_move : MethodName := ⟨RX9, "move", "(II)I"⟩
abbrev cX9_item : ByteArray := prog_11_method_36_code
def yX9_item : MethodName := ⟨RX9, "item", "(II)I"⟩
abbrev cX9_nameCharacter : ByteArray := prog_11_method_37_code
def yX9_nameCharacter : MethodName := ⟨RX9, "nameCharacter", "(II)C"⟩
abbrev cX9_setForm : ByteArray := prog_11_method_38_code
def yX9_setForm : MethodName := ⟨RX9, "setForm", "(II)I"⟩
abbrev cX9_totalSize : ByteArray := prog_11_method_39_code
def yX9_totalSize : MethodName := ⟨RX9, "totalSize", "()I"⟩
abbrev cX9_padding : ByteArray := prog_11_method_40_code
def yX9_padding : MethodName := ⟨RX9, "padding", "()I"⟩
abbrev cX9_labelAddress : ByteArray := prog_11_method_41_code
def yX9_labelAddress : MethodName := ⟨RX9, "labelAddress", "(I)I"⟩
abbrev cX9_itemAt : ByteArray := prog_11_method_42_code
def yX9_itemAt : MethodName := ⟨RX9, "itemAt", "(I)I"⟩
abbrev cX9_addressIf : ByteArray := prog_11_method_43_code
def yX9_addressIf : MethodName := ⟨RX9, "addressIf", "(II)I"⟩
abbrev cX9_goesOn : ByteArray := prog_11_method_44_code
def yX9_goesOn : MethodName := ⟨RX9, "goesOn", "(I)V"⟩
abbrev cX9_possibleAddresses : ByteArray := prog_11_method_45_code
def yX9_possibleAddresses : MethodName := ⟨RX9, "possibleAddresses", "(I)I"⟩
abbrev cX9_transfers : ByteArray := prog_11_method_46_code
def yX9_transfers : MethodName := ⟨RX9, "transfers", "()I"⟩
abbrev cX9_transferCount : ByteArray := prog_11_method_47_code
def yX9_transferCount : MethodName := ⟨RX9, "transferCount", "()I"⟩
abbrev cX9_formCount : ByteArray := prog_11_method_48_code
def yX9_formCount : MethodName := ⟨RX9, "formCount", "(I)I"⟩
abbrev cX9_undefined : ByteArray := prog_11_method_49_code
def yX9_undefined : MethodName := ⟨RX9, "undefined", "()I"⟩
abbrev cX9_undefinedCount : ByteArray := prog_11_method_50_code
def yX9_undefinedCount : MethodName := ⟨RX9, "undefinedCount", "()I"⟩
abbrev cX9_off : ByteArray := prog_11_method_51_code
def yX9_off : MethodName := ⟨RX9, "off", "(I)I"⟩
abbrev cX9_needed : ByteArray := prog_11_method_52_code
def yX9_needed : MethodName := ⟨RX9, "needed", "(I)I"⟩
abbrev cX9_isFit : ByteArray := prog_11_method_53_code
def yX9_isFit : MethodName := ⟨RX9, "isFit", "(I)Z"⟩
abbrev cX9_lacks : ByteArray := prog_11_method_54_code
def yX9_lacks : MethodName := ⟨RX9, "lacks", "(I)I"⟩
abbrev cX9_displacement : ByteArray := prog_11_method_55_code
def yX9_displacement : MethodName := ⟨RX9, "displacement", "(I)I"⟩
abbrev cX9_fits : ByteArray := prog_11_method_56_code
def yX9_fits : MethodName := ⟨RX9, "fits", "(I)Z"⟩
abbrev cX9_misfitMany : ByteArray := prog_11_method_57_code
def yX9_misfitMany : MethodName := ⟨RX9, "misfitMany", "()I"⟩
abbrev cX9_misfits : ByteArray := prog_11_method_58_code
def yX9_misfits : MethodName := ⟨RX9, "misfits", "()I"⟩
abbrev cX9_neededForm : ByteArray := prog_11_method_59_code
def yX9_neededForm : MethodName := ⟨RX9, "neededForm", "(I)I"⟩
abbrev cX9_round : ByteArray := prog_11_method_60_code
def yX9_round : MethodName := ⟨RX9, "round", "()Z"⟩
abbrev cX9_relax : ByteArray := prog_11_method_61_code
def yX9_relax : MethodName := ⟨RX9, "relax", "()I"⟩
abbrev cX9_pass : ByteArray := prog_11_method_62_code
def yX9_pass : MethodName := ⟨RX9, "pass", "()I"⟩
abbrev cX9_shrink : ByteArray := prog_11_method_63_code
def yX9_shrink : MethodName := ⟨RX9, "shrink", "()I"⟩
abbrev cX9_chooses : ByteArray := prog_11_method_64_code
def yX9_chooses : MethodName := ⟨RX9, "chooses", "(II)V"⟩
abbrev cX9_tellChoices : ByteArray := prog_11_method_65_code
def yX9_tellChoices : MethodName := ⟨RX9, "tellChoices", "()V"⟩
abbrev cX9_lacksChoices : ByteArray := prog_11_method_66_code
def yX9_lacksChoices : MethodName := ⟨RX9, "lacksChoices", "()I"⟩
abbrev cX9_leastSize : ByteArray := prog_11_method_67_code
def yX9_leastSize : MethodName := ⟨RX9, "leastSize", "()I"⟩
abbrev cX9_optimize : ByteArray := prog_11_method_68_code
def yX9_optimize : MethodName := ⟨RX9, "optimize", "()I"⟩
abbrev cX9_consistentChoices : ByteArray := prog_11_method_69_code
def yX9_consistentChoices : MethodName := ⟨RX9, "consistentChoices", "()I"⟩
abbrev cX9_averageForm : ByteArray := prog_11_method_70_code
def yX9_averageForm : MethodName := ⟨RX9, "averageForm", "()D"⟩
abbrev cX9_pools : ByteArray := prog_11_method_71_code
def yX9_pools : MethodName := ⟨RX9, "pools", "()I"⟩
abbrev cX9_placeOf : ByteArray := prog_11_method_72_code
def yX9_placeOf : MethodName := ⟨RX9, "placeOf", "(I)I"⟩
abbrev cX9_poolCount : ByteArray := prog_11_method_73_code
def yX9_poolCount : MethodName := ⟨RX9, "poolCount", "()I"⟩
abbrev cX9_literalCount : ByteArray := prog_11_method_74_code
def yX9_literalCount : MethodName := ⟨RX9, "literalCount", "(I)I"⟩
abbrev cX9_literal : ByteArray := prog_11_method_75_code
def yX9_literal : MethodName := ⟨RX9, "literal", "(II)I"⟩
abbrev cX9_literalAddress : ByteArray := prog_11_method_76_code
def yX9_literalAddress : MethodName := ⟨RX9, "literalAddress", "(II)I"⟩
abbrev cX9_poolPlace : ByteArray := prog_11_method_77_code
def yX9_poolPlace : MethodName := ⟨RX9, "poolPlace", "(I)I"⟩
abbrev cX9_lacksLoad : ByteArray := prog_11_method_78_code
def yX9_lacksLoad : MethodName := ⟨RX9, "lacksLoad", "(I)I"⟩
abbrev cX9_poolOf : ByteArray := prog_11_method_79_code
def yX9_poolOf : MethodName := ⟨RX9, "poolOf", "(I)I"⟩
abbrev cX9_far : ByteArray := prog_11_method_80_code
def yX9_far : MethodName := ⟨RX9, "far", "(II)I"⟩
abbrev cX9_distance : ByteArray := prog_11_method_81_code
def yX9_distance : MethodName := ⟨RX9, "distance", "(I)I"⟩
abbrev cX9_loadsOutOfReach : ByteArray := prog_11_method_82_code
def yX9_loadsOutOfReach : MethodName := ⟨RX9, "loadsOutOfReach", "()I"⟩
abbrev cX9_slack : ByteArray := prog_11_method_83_code
def yX9_slack : MethodName := ⟨RX9, "slack", "(I)I"⟩
abbrev cX9_undo : ByteArray := prog_11_method_84_code
def yX9_undo : MethodName := ⟨RX9, "undo", "()I"⟩
abbrev cX9_save : ByteArray := prog_11_method_85_code
def yX9_save : MethodName := ⟨RX9, "save", "()I"⟩
abbrev cX9_restore : ByteArray := prog_11_method_86_code
def yX9_restore : MethodName := ⟨RX9, "restore", "()I"⟩
def RJx145de : String := "java/io/Serializable"
def TJx145de : u_T := fun k => match k with
  | _ => ("", "", "", false)
def tyJx145de : Nat → FieldType := fun k => match k with
  | _ => .int
abbrev wsJx145de0 : List Cond := u_ws RJx145de TJx145de 0
theorem nmJx145de : ∀ a, a < 0 → ∀ b, b < 0 → a ≠ b → (TJx145de a).2.1 ≠ (TJx145de b).2.1 := by decide +kernel
theorem tyJx145de_ok : ∀ k, k < 0 → parseFieldDescriptor (TJx145de k).2.2.1 = some (tyJx145de k) := by decide +kernel
def RJx00060 : String := "java/lang/ArrayIndexOutOfBoundsException"
def TJx00060 : u_T := fun k => match k with
  | 0 => ("java/lang/Throwable", "backtrace", "Ljava/lang/Object;", false)
  | 1 => ("java/lang/Throwable", "detailMessage", "Ljava/lang/String;", false)
  | 2 => ("java/lang/Throwable", "cause", "Ljava/lang/Throwable;", false)
  | 3 => ("java/lang/Throwable", "stackTrace", "[Ljava/lang/StackTraceElement;", false)
  | 4 => ("java/lang/Throwable", "depth", "I", false)
  | _ => ("java/lang/Throwable", "suppressedExceptions", "Ljava/util/List;", false)
def tyJx00060 : Nat → FieldType := fun k => match k with
  | 0 => .object "java/lang/Object"
  | 1 => .object "java/lang/String"
  | 2 => .object "java/lang/Throwable"
  | 3 => .array (.object "java/lang/StackTraceElement")
  | 4 => .int
  | _ => .object "java/util/List"
abbrev wsJx000600 : List Cond := u_ws RJx00060 TJx00060 6
theorem nmJx00060 : ∀ a, a < 6 → ∀ b, b < 6 → a ≠ b → (TJx00060 a).2.1 ≠ (TJx00060 b).2.1 := by decide +kernel
theorem tyJx00060_ok : ∀ k, k < 6 → parseFieldDescriptor (TJx00060 k).2.2.1 = some (tyJx00060 k) := by decide +kernel
abbrev cJx00060_init_a7421 : ByteArray := prog_14_method_2_code
def yJx00060_init_a7421 : MethodName := ⟨RJx00060, "<init>", "(Ljava/lang/String;)V"⟩
def RJx9f9b0 : String := "java/lang/CharSequence"
def TJx9f9b0 : u_T := fun k => match k with
  | _ => ("", "", "", false)
def tyJx9f9b0 : Nat → FieldType := fun k => match k with
  | _ => .int
abbrev wsJx9f9b00 : List Cond := u_ws RJx9f9b0 TJx9f9b0 0
theorem nmJx9f9b0 : ∀ a, a < 0 → ∀ b, b < 0 → a ≠ b → (TJx9f9b0 a).2.1 ≠ (TJx9f9b0 b).2.1 := by decide +kernel
theorem tyJx9f9b0_ok : ∀ k, k < 0 → parseFieldDescriptor (TJx9f9b0 k).2.2.1 = some (tyJx9f9b0 k) := by decide +kernel
def RJxb160c : String := "java/lang/Comparable"
def TJxb160c : u_T := fun k => match k with
  | _ => ("", "", "", false)
def tyJxb160c : Nat → FieldType := fun k => match k with
  | _ => .int
abbrev wsJxb160c0 : List Cond := u_ws RJxb160c TJxb160c 0
theorem nmJxb160c : ∀ a, a < 0 → ∀ b, b < 0 → a ≠ b → (TJxb160c a).2.1 ≠ (TJxb160c b).2.1 := by decide +kernel
theorem tyJxb160c_ok : ∀ k, k < 0 → parseFieldDescriptor (TJxb160c k).2.2.1 = some (tyJxb160c k) := by decide +kernel
def RJ9 : String := "java/lang/Math"
def TJ9 : u_T := fun k => match k with
  | _ => ("", "", "", false)
def tyJ9 : Nat → FieldType := fun k => match k with
  | _ => .int
abbrev wsJ90 : List Cond := u_ws RJ9 TJ9 0
theorem nmJ9 : ∀ a, a < 0 → ∀ b, b < 0 → a ≠ b → (TJ9 a).2.1 ≠ (TJ9 b).2.1 := by decide +kernel
theorem tyJ9_ok : ∀ k, k < 0 → parseFieldDescriptor (TJ9 k).2.2.1 = some (tyJ9 k) := by decide +kernel
abbrev cJ9_max_7cf53 : ByteArray := prog_21_method_65_code
def yJ9_max_7cf53 : MethodName := ⟨RJ9, "max", "(II)I"⟩
abbrev cJ9_min_7cf53 : ByteArray := prog_21_method_69_code
def yJ9_min_7cf53 : MethodName := ⟨RJ9, "min", "(II)I"⟩
def RJ0 : String := "java/lang/String"
def TJ0 : u_T := fun k => match k with
  | 0 => ("java/lang/String", "value", "[B", true)
  | _ => ("java/lang/String", "coder", "B", true)
def tyJ0 : Nat → FieldType := fun k => match k with
  | 0 => .array .byte
  | _ => .byte
abbrev wsJ00 : List Cond := u_ws RJ0 TJ0 2
theorem nmJ0 : ∀ a, a < 2 → ∀ b, b < 2 → a ≠ b → (TJ0 a).2.1 ≠ (TJ0 b).2.1 := by decide +kernel
theorem tyJ0_ok : ∀ k, k < 2 → parseFieldDescriptor (TJ0 k).2.2.1 = some (tyJ0 k) := by decide +kernel
abbrev cJ0_length_8abf5 : ByteArray := prog_23_method_54_code
def yJ0_length_8abf5 : MethodName := ⟨RJ0, "length", "()I"⟩
abbrev cJ0_charAt_5068e : ByteArray := prog_23_method_56_code
def yJ0_charAt_5068e : MethodName := ⟨RJ0, "charAt", "(I)C"⟩
abbrev cJ0_coder_7d493 : ByteArray := prog_23_method_152_code
def yJ0_coder_7d493 : MethodName := ⟨RJ0, "coder", "()B"⟩
abbrev cJ0_isLatin1_aae02 : ByteArray := prog_23_method_154_code
def yJ0_isLatin1_aae02 : MethodName := ⟨RJ0, "isLatin1", "()Z"⟩
abbrev cJ0_checkIndex_df160 : ByteArray := prog_23_method_155_code
def yJ0_checkIndex_df160 : MethodName := ⟨RJ0, "checkIndex", "(II)V"⟩
def RJ1 : String := "java/lang/StringLatin1"
def TJ1 : u_T := fun k => match k with
  | _ => ("", "", "", false)
def tyJ1 : Nat → FieldType := fun k => match k with
  | _ => .int
abbrev wsJ10 : List Cond := u_ws RJ1 TJ1 0
theorem nmJ1 : ∀ a, a < 0 → ∀ b, b < 0 → a ≠ b → (TJ1 a).2.1 ≠ (TJ1 b).2.1 := by decide +kernel
theorem tyJ1_ok : ∀ k, k < 0 → parseFieldDescriptor (TJ1 k).2.2.1 = some (tyJ1 k) := by decide +kernel
abbrev cJ1_charAt_3b067 : ByteArray := prog_24_method_2_code
def yJ1_charAt_3b067 : MethodName := ⟨RJ1, "charAt", "([BI)C"⟩
def RJ2 : String := "java/lang/StringUTF16"
def TJ2 : u_T := fun k => match k with
  | _ => ("", "", "", false)
def tyJ2 : Nat → FieldType := fun k => match k with
  | _ => .int
abbrev wsJ20 : List Cond := u_ws RJ2 TJ2 0
theorem nmJ2 : ∀ a, a < 0 → ∀ b, b < 0 → a ≠ b → (TJ2 a).2.1 ≠ (TJ2 b).2.1 := by decide +kernel
theorem tyJ2_ok : ∀ k, k < 0 → parseFieldDescriptor (TJ2 k).2.2.1 = some (tyJ2 k) := by decide +kernel
abbrev cJ2_getChar_3b067 : ByteArray := prog_25_method_5_code
def yJ2_getChar_3b067 : MethodName := ⟨RJ2, "getChar", "([BI)C"⟩
abbrev cJ2_length_9d52b : ByteArray := prog_25_method_6_code
def yJ2_length_9d52b : MethodName := ⟨RJ2, "length", "([B)I"⟩
abbrev cJ2_charAt_3b067 : ByteArray := prog_25_method_83_code
def yJ2_charAt_3b067 : MethodName := ⟨RJ2, "charAt", "([BI)C"⟩
abbrev cJ2_checkIndex_2214a : ByteArray := prog_25_method_91_code
def yJ2_checkIndex_2214a : MethodName := ⟨RJ2, "checkIndex", "(I[B)V"⟩
def RJ10 : String := "java/lang/System"
def TJ10 : u_T := fun k => match k with
  | _ => ("", "", "", false)
def tyJ10 : Nat → FieldType := fun k => match k with
  | _ => .int
abbrev wsJ100 : List Cond := u_ws RJ10 TJ10 0
theorem nmJ10 : ∀ a, a < 0 → ∀ b, b < 0 → a ≠ b → (TJ10 a).2.1 ≠ (TJ10 b).2.1 := by decide +kernel
theorem tyJ10_ok : ∀ k, k < 0 → parseFieldDescriptor (TJ10 k).2.2.1 = some (tyJ10 k) := by decide +kernel
def RJxfd54e : String := "java/lang/constant/Constable"
def TJxfd54e : u_T := fun k => match k with
  | _ => ("", "", "", false)
def tyJxfd54e : Nat → FieldType := fun k => match k with
  | _ => .int
abbrev wsJxfd54e0 : List Cond := u_ws RJxfd54e TJxfd54e 0
theorem nmJxfd54e : ∀ a, a < 0 → ∀ b, b < 0 → a ≠ b → (TJxfd54e a).2.1 ≠ (TJxfd54e b).2.1 := by decide +kernel
theorem tyJxfd54e_ok : ∀ k, k < 0 → parseFieldDescriptor (TJxfd54e k).2.2.1 = some (tyJxfd54e k) := by decide +kernel
def RJx3cf43 : String := "java/lang/constant/ConstantDesc"
def TJx3cf43 : u_T := fun k => match k with
  | _ => ("", "", "", false)
def tyJx3cf43 : Nat → FieldType := fun k => match k with
  | _ => .int
abbrev wsJx3cf430 : List Cond := u_ws RJx3cf43 TJx3cf43 0
theorem nmJx3cf43 : ∀ a, a < 0 → ∀ b, b < 0 → a ≠ b → (TJx3cf43 a).2.1 ≠ (TJx3cf43 b).2.1 := by decide +kernel
theorem tyJx3cf43_ok : ∀ k, k < 0 → parseFieldDescriptor (TJx3cf43 k).2.2.1 = some (tyJx3cf43 k) := by decide +kernel
def RJ7 : String := "java/util/Arrays"
def TJ7 : u_T := fun k => match k with
  | _ => ("", "", "", false)
def tyJ7 : Nat → FieldType := fun k => match k with
  | _ => .int
abbrev wsJ70 : List Cond := u_ws RJ7 TJ7 0
theorem nmJ7 : ∀ a, a < 0 → ∀ b, b < 0 → a ≠ b → (TJ7 a).2.1 ≠ (TJ7 b).2.1 := by decide +kernel
theorem tyJ7_ok : ∀ k, k < 0 → parseFieldDescriptor (TJ7 k).2.2.1 = some (tyJ7 k) := by decide +kernel
abbrev cJ7_fill_53178 : ByteArray := prog_31_method_103_code
def yJ7_fill_53178 : MethodName := ⟨RJ7, "fill", "([II)V"⟩
def RJ3 : String := "jdk/internal/util/Preconditions"
def TJ3 : u_T := fun k => match k with
  | _ => ("", "", "", false)
def tyJ3 : Nat → FieldType := fun k => match k with
  | _ => .int
abbrev wsJ30 : List Cond := u_ws RJ3 TJ3 0
theorem nmJ3 : ∀ a, a < 0 → ∀ b, b < 0 → a ≠ b → (TJ3 a).2.1 ≠ (TJ3 b).2.1 := by decide +kernel
theorem tyJ3_ok : ∀ k, k < 0 → parseFieldDescriptor (TJ3 k).2.2.1 = some (tyJ3 k) := by decide +kernel
abbrev cJ3_checkIndex_8e157 : ByteArray := prog_33_method_11_code
def yJ3_checkIndex_8e157 : MethodName := ⟨RJ3, "checkIndex", "(IILjava/util/function/BiFunction;)I"⟩
def RL : String := "BranchRelaxerLaw"
abbrev cL_append : ByteArray := method_3_code
def yL_append : MethodName := ⟨RL, "append", "(LBranchRelaxer;C[J)I"⟩
abbrev cL_insert : ByteArray := method_4_code
def yL_insert : MethodName := ⟨RL, "insert", "(LBranchRelaxer;I[J)I"⟩
abbrev cL_errorPosition : ByteArray := method_5_code
def yL_errorPosition : MethodName := ⟨RL, "errorPosition", "(LBranchRelaxer;[J)I"⟩
abbrev cL_remove : ByteArray := method_6_code
def yL_remove : MethodName := ⟨RL, "remove", "(LBranchRelaxer;I[J)I"⟩
abbrev cL_move : ByteArray := method_7_code
def yL_move : MethodName := ⟨RL, "move", "(LBranchRelaxer;II[J)I"⟩
abbrev cL_item : ByteArray := method_8_code
def yL_item : MethodName := ⟨RL, "item", "(LBranchRelaxer;II[J)I"⟩
abbrev cL_nameCharacter : ByteArray := method_9_code
def yL_nameCharacter : MethodName := ⟨RL, "nameCharacter", "(LBranchRelaxer;II[J)I"⟩
abbrev cL_setForm : ByteArray := method_10_code
def yL_setForm : MethodName := ⟨RL, "setForm", "(LBranchRelaxer;II[J)I"⟩
abbrev cL_labelAddress : ByteArray := method_11_code
def yL_labelAddress : MethodName := ⟨RL, "labelAddress", "(LBranchRelaxer;I[J)I"⟩
abbrev cL_itemAt : ByteArray := method_12_code
def yL_itemAt : MethodName := ⟨RL, "itemAt", "(LBranchRelaxer;I[J)I"⟩
abbrev cL_addressIf : ByteArray := method_13_code
def yL_addressIf : MethodName := ⟨RL, "addressIf", "(LBranchRelaxer;II[J)I"⟩
abbrev cL_possibleAddresses : ByteArray := method_14_code
def yL_possibleAddresses : MethodName := ⟨RL, "possibleAddresses", "(LBranchRelaxer;I[J)I"⟩
abbrev cL_formCount : ByteArray := method_15_code
def yL_formCount : MethodName := ⟨RL, "formCount", "(LBranchRelaxer;I[J)I"⟩
abbrev cL_displacement : ByteArray := method_16_code
def yL_displacement : MethodName := ⟨RL, "displacement", "(LBranchRelaxer;I[J)I"⟩
abbrev cL_fits : ByteArray := method_17_code
def yL_fits : MethodName := ⟨RL, "fits", "(LBranchRelaxer;I[J)I"⟩
abbrev cL_misfits : ByteArray := method_18_code
def yL_misfits : MethodName := ⟨RL, "misfits", "(LBranchRelaxer;[J)I"⟩
abbrev cL_neededForm : ByteArray := method_19_code
def yL_neededForm : MethodName := ⟨RL, "neededForm", "(LBranchRelaxer;I[J)I"⟩
abbrev cL_relax : ByteArray := method_20_code
def yL_relax : MethodName := ⟨RL, "relax", "(LBranchRelaxer;[J)I"⟩
abbrev cL_shrink : ByteArray := method_21_code
def yL_shrink : MethodName := ⟨RL, "shrink", "(LBranchRelaxer;[J)I"⟩
abbrev cL_leastSize : ByteArray := method_22_code
def yL_leastSize : MethodName := ⟨RL, "leastSize", "(LBranchRelaxer;[J)I"⟩
abbrev cL_optimize : ByteArray := method_23_code
def yL_optimize : MethodName := ⟨RL, "optimize", "(LBranchRelaxer;[J)I"⟩
abbrev cL_consistentChoices : ByteArray := method_24_code
def yL_consistentChoices : MethodName := ⟨RL, "consistentChoices", "(LBranchRelaxer;[J)I"⟩
abbrev cL_averageForm : ByteArray := method_25_code
def yL_averageForm : MethodName := ⟨RL, "averageForm", "(LBranchRelaxer;[D)I"⟩
abbrev cL_literalCount : ByteArray := method_26_code
def yL_literalCount : MethodName := ⟨RL, "literalCount", "(LBranchRelaxer;I[J)I"⟩
abbrev cL_literal : ByteArray := method_27_code
def yL_literal : MethodName := ⟨RL, "literal", "(LBranchRelaxer;II[J)I"⟩
abbrev cL_literalAddress : ByteArray := method_28_code
def yL_literalAddress : MethodName := ⟨RL, "literalAddress", "(LBranchRelaxer;II[J)I"⟩
abbrev cL_poolOf : ByteArray := method_29_code
def yL_poolOf : MethodName := ⟨RL, "poolOf", "(LBranchRelaxer;I[J)I"⟩
abbrev cL_distance : ByteArray := method_30_code
def yL_distance : MethodName := ⟨RL, "distance", "(LBranchRelaxer;I[J)I"⟩
abbrev cL_slack : ByteArray := method_31_code
def yL_slack : MethodName := ⟨RL, "slack", "(LBranchRelaxer;I[J)I"⟩
abbrev cL_undo : ByteArray := method_32_code
def yL_undo : MethodName := ⟨RL, "undo", "(LBranchRelaxer;[J)I"⟩
abbrev cL_restore : ByteArray := method_33_code
def yL_restore : MethodName := ⟨RL, "restore", "(LBranchRelaxer;[J)I"⟩
abbrev cL_law : ByteArray := code
def yL_law : MethodName := ⟨RL, "law", "([I)Z"⟩
abbrev vwCl : List vw_C := [(RJ0, TJ0, 2), (RJx00060, TJx00060, 6), (RX0, TX0, 5), (RX1, TX1, 8), (RX2, TX2, 3), (RX3, TX3, 5), (RX4, TX4, 3), (RX5, TX5, 9), (RX6, TX6, 4), (RX7, TX7, 3), (RX8, TX8, 11), (RX9, TX9, 21)]
end
section
theorem dJ0_length_8abf5_0 : decode cJ0_length_8abf5 0 = .ok (.aload_n 0, 1) := by decide +kernel
theorem dJ0_length_8abf5_1 : decode cJ0_length_8abf5 1 = .ok (.getfield 9, 3) := by decide +kernel
theorem dJ0_length_8abf5_4 : decode cJ0_length_8abf5 4 = .ok (.arraylength, 1) := by decide +kernel
theorem dJ0_length_8abf5_5 : decode cJ0_length_8abf5 5 = .ok (.aload_n 0, 1) := by decide +kernel
theorem dJ0_length_8abf5_6 : decode cJ0_length_8abf5 6 = .ok (.invokevirtual 335, 3) := by decide +kernel
theorem dJ0_length_8abf5_9 : decode cJ0_length_8abf5 9 = .ok (.ishr, 1) := by decide +kernel
theorem dJ0_length_8abf5_10 : decode cJ0_length_8abf5 10 = .ok (.ireturn, 1) := by decide +kernel
theorem dJ0_charAt_5068e_0 : decode cJ0_charAt_5068e 0 = .ok (.aload_n 0, 1) := by decide +kernel
theorem dJ0_charAt_5068e_1 : decode cJ0_charAt_5068e 1 = .ok (.invokevirtual 492, 3) := by decide +kernel
theorem dJ0_charAt_5068e_4 : decode cJ0_charAt_5068e 4 = .ok (.ifCond .eq 12, 3) := by decide +kernel
theorem dJ0_charAt_5068e_7 : decode cJ0_charAt_5068e 7 = .ok (.aload_n 0, 1) := by decide +kernel
theorem dJ0_charAt_5068e_8 : decode cJ0_charAt_5068e 8 = .ok (.getfield 9, 3) := by decide +kernel
theorem dJ0_charAt_5068e_11 : decode cJ0_charAt_5068e 11 = .ok (.iload_n 1, 1) := by decide +kernel
theorem dJ0_charAt_5068e_12 : decode cJ0_charAt_5068e 12 = .ok (.invokestatic 495, 3) := by decide +kernel
theorem dJ0_charAt_5068e_15 : decode cJ0_charAt_5068e 15 = .ok (.ireturn, 1) := by decide +kernel
theorem dJ0_charAt_5068e_16 : decode cJ0_charAt_5068e 16 = .ok (.aload_n 0, 1) := by decide +kernel
theorem dJ0_charAt_5068e_17 : decode cJ0_charAt_5068e 17 = .ok (.getfield 9, 3) := by decide +kernel
theorem dJ0_charAt_5068e_20 : decode cJ0_charAt_5068e 20 = .ok (.iload_n 1, 1) := by decide +kernel
theorem dJ0_charAt_5068e_21 : decode cJ0_charAt_5068e 21 = .ok (.invokestatic 498, 3) := by decide +kernel
theorem dJ0_charAt_5068e_24 : decode cJ0_charAt_5068e 24 = .ok (.ireturn, 1) := by decide +kernel
theorem dJ0_coder_7d493_0 : decode cJ0_coder_7d493 0 = .ok (.getstatic 38, 3) := by decide +kernel
theorem dJ0_coder_7d493_3 : decode cJ0_coder_7d493 3 = .ok (.ifCond .eq 10, 3) := by decide +kernel
theorem dJ0_coder_7d493_6 : decode cJ0_coder_7d493 6 = .ok (.aload_n 0, 1) := by decide +kernel
theorem dJ0_coder_7d493_7 : decode cJ0_coder_7d493 7 = .ok (.getfield 15, 3) := by decide +kernel
theorem dJ0_coder_7d493_10 : decode cJ0_coder_7d493 10 = .ok (.goto 4, 3) := by decide +kernel
theorem dJ0_coder_7d493_13 : decode cJ0_coder_7d493 13 = .ok (.iconst 1, 1) := by decide +kernel
theorem dJ0_coder_7d493_14 : decode cJ0_coder_7d493 14 = .ok (.ireturn, 1) := by decide +kernel
theorem dJ0_isLatin1_aae02_0 : decode cJ0_isLatin1_aae02 0 = .ok (.getstatic 38, 3) := by decide +kernel
theorem dJ0_isLatin1_aae02_3 : decode cJ0_isLatin1_aae02 3 = .ok (.ifCond .eq 14, 3) := by decide +kernel
theorem dJ0_isLatin1_aae02_6 : decode cJ0_isLatin1_aae02 6 = .ok (.aload_n 0, 1) := by decide +kernel
theorem dJ0_isLatin1_aae02_7 : decode cJ0_isLatin1_aae02 7 = .ok (.getfield 15, 3) := by decide +kernel
theorem dJ0_isLatin1_aae02_10 : decode cJ0_isLatin1_aae02 10 = .ok (.ifCond .ne 7, 3) := by decide +kernel
theorem dJ0_isLatin1_aae02_13 : decode cJ0_isLatin1_aae02 13 = .ok (.iconst 1, 1) := by decide +kernel
theorem dJ0_isLatin1_aae02_14 : decode cJ0_isLatin1_aae02 14 = .ok (.goto 4, 3) := by decide +kernel
theorem dJ0_isLatin1_aae02_17 : decode cJ0_isLatin1_aae02 17 = .ok (.iconst 0, 1) := by decide +kernel
theorem dJ0_isLatin1_aae02_18 : decode cJ0_isLatin1_aae02 18 = .ok (.ireturn, 1) := by decide +kernel
theorem dJ0_checkIndex_df160_0 : decode cJ0_checkIndex_df160 0 = .ok (.iload_n 0, 1) := by decide +kernel
theorem dJ0_checkIndex_df160_1 : decode cJ0_checkIndex_df160 1 = .ok (.iload_n 1, 1) := by decide +kernel
theorem dJ0_checkIndex_df160_2 : decode cJ0_checkIndex_df160 2 = .ok (.getstatic 1053, 3) := by decide +kernel
theorem dJ0_checkIndex_df160_5 : decode cJ0_checkIndex_df160 5 = .ok (.invokestatic 1059, 3) := by decide +kernel
theorem dJ0_checkIndex_df160_8 : decode cJ0_checkIndex_df160 8 = .ok (.pop, 1) := by decide +kernel
theorem dJ0_checkIndex_df160_9 : decode cJ0_checkIndex_df160 9 = .ok (.return_, 1) := by decide +kernel
end
section
theorem dJ1_charAt_3b067_0 : decode cJ1_charAt_3b067 0 = .ok (.iload_n 1, 1) := by decide +kernel
theorem dJ1_charAt_3b067_1 : decode cJ1_charAt_3b067 1 = .ok (.aload_n 0, 1) := by decide +kernel
theorem dJ1_charAt_3b067_2 : decode cJ1_charAt_3b067 2 = .ok (.arraylength, 1) := by decide +kernel
theorem dJ1_charAt_3b067_3 : decode cJ1_charAt_3b067 3 = .ok (.invokestatic 9, 3) := by decide +kernel
theorem dJ1_charAt_3b067_6 : decode cJ1_charAt_3b067 6 = .ok (.aload_n 0, 1) := by decide +kernel
theorem dJ1_charAt_3b067_7 : decode cJ1_charAt_3b067 7 = .ok (.iload_n 1, 1) := by decide +kernel
theorem dJ1_charAt_3b067_8 : decode cJ1_charAt_3b067 8 = .ok (.baload, 1) := by decide +kernel
theorem dJ1_charAt_3b067_9 : decode cJ1_charAt_3b067 9 = .ok (.sipush 255, 3) := by decide +kernel
theorem dJ1_charAt_3b067_12 : decode cJ1_charAt_3b067 12 = .ok (.iand, 1) := by decide +kernel
theorem dJ1_charAt_3b067_13 : decode cJ1_charAt_3b067 13 = .ok (.i2c, 1) := by decide +kernel
theorem dJ1_charAt_3b067_14 : decode cJ1_charAt_3b067 14 = .ok (.ireturn, 1) := by decide +kernel
end
section
theorem dJ2_getChar_3b067_0 : decode cJ2_getChar_3b067 0 = .ok (.getstatic 44, 3) := by decide +kernel
theorem dJ2_getChar_3b067_3 : decode cJ2_getChar_3b067 3 = .ok (.ifCond .ne 25, 3) := by decide +kernel
theorem dJ2_getChar_3b067_6 : decode cJ2_getChar_3b067 6 = .ok (.iload_n 1, 1) := by decide +kernel
theorem dJ2_getChar_3b067_7 : decode cJ2_getChar_3b067 7 = .ok (.ifCond .lt 11, 3) := by decide +kernel
theorem dJ2_getChar_3b067_10 : decode cJ2_getChar_3b067 10 = .ok (.iload_n 1, 1) := by decide +kernel
theorem dJ2_getChar_3b067_11 : decode cJ2_getChar_3b067 11 = .ok (.aload_n 0, 1) := by decide +kernel
theorem dJ2_getChar_3b067_12 : decode cJ2_getChar_3b067 12 = .ok (.invokestatic 48, 3) := by decide +kernel
theorem dJ2_getChar_3b067_15 : decode cJ2_getChar_3b067 15 = .ok (.if_icmp .lt 13, 3) := by decide +kernel
theorem dJ2_getChar_3b067_18 : decode cJ2_getChar_3b067 18 = .ok (.new 52, 3) := by decide +kernel
theorem dJ2_getChar_3b067_21 : decode cJ2_getChar_3b067 21 = .ok (.dup, 1) := by decide +kernel
theorem dJ2_getChar_3b067_22 : decode cJ2_getChar_3b067 22 = .ok (.ldc 54, 2) := by decide +kernel
theorem dJ2_getChar_3b067_24 : decode cJ2_getChar_3b067 24 = .ok (.invokespecial 56, 3) := by decide +kernel
theorem dJ2_getChar_3b067_27 : decode cJ2_getChar_3b067 27 = .ok (.athrow, 1) := by decide +kernel
theorem dJ2_getChar_3b067_28 : decode cJ2_getChar_3b067 28 = .ok (.iload_n 1, 1) := by decide +kernel
theorem dJ2_getChar_3b067_29 : decode cJ2_getChar_3b067 29 = .ok (.iconst 1, 1) := by decide +kernel
theorem dJ2_getChar_3b067_30 : decode cJ2_getChar_3b067 30 = .ok (.ishl, 1) := by decide +kernel
theorem dJ2_getChar_3b067_31 : decode cJ2_getChar_3b067 31 = .ok (.istore_n 1, 1) := by decide +kernel
theorem dJ2_getChar_3b067_32 : decode cJ2_getChar_3b067 32 = .ok (.aload_n 0, 1) := by decide +kernel
theorem dJ2_getChar_3b067_33 : decode cJ2_getChar_3b067 33 = .ok (.iload_n 1, 1) := by decide +kernel
theorem dJ2_getChar_3b067_34 : decode cJ2_getChar_3b067 34 = .ok (.iinc 1 1, 3) := by decide +kernel
theorem dJ2_getChar_3b067_37 : decode cJ2_getChar_3b067 37 = .ok (.baload, 1) := by decide +kernel
theorem dJ2_getChar_3b067_38 : decode cJ2_getChar_3b067 38 = .ok (.sipush 255, 3) := by decide +kernel
theorem dJ2_getChar_3b067_41 : decode cJ2_getChar_3b067 41 = .ok (.iand, 1) := by decide +kernel
theorem dJ2_getChar_3b067_42 : decode cJ2_getChar_3b067 42 = .ok (.getstatic 59, 3) := by decide +kernel
theorem dJ2_getChar_3b067_45 : decode cJ2_getChar_3b067 45 = .ok (.ishl, 1) := by decide +kernel
theorem dJ2_getChar_3b067_46 : decode cJ2_getChar_3b067 46 = .ok (.aload_n 0, 1) := by decide +kernel
theorem dJ2_getChar_3b067_47 : decode cJ2_getChar_3b067 47 = .ok (.iload_n 1, 1) := by decide +kernel
theorem dJ2_getChar_3b067_48 : decode cJ2_getChar_3b067 48 = .ok (.baload, 1) := by decide +kernel
theorem dJ2_getChar_3b067_49 : decode cJ2_getChar_3b067 49 = .ok (.sipush 255, 3) := by decide +kernel
theorem dJ2_getChar_3b067_52 : decode cJ2_getChar_3b067 52 = .ok (.iand, 1) := by decide +kernel
theorem dJ2_getChar_3b067_53 : decode cJ2_getChar_3b067 53 = .ok (.getstatic 63, 3) := by decide +kernel
theorem dJ2_getChar_3b067_56 : decode cJ2_getChar_3b067 56 = .ok (.ishl, 1) := by decide +kernel
theorem dJ2_getChar_3b067_57 : decode cJ2_getChar_3b067 57 = .ok (.ior, 1) := by decide +kernel
theorem dJ2_getChar_3b067_58 : decode cJ2_getChar_3b067 58 = .ok (.i2c, 1) := by decide +kernel
theorem dJ2_getChar_3b067_59 : decode cJ2_getChar_3b067 59 = .ok (.ireturn, 1) := by decide +kernel
theorem dJ2_length_9d52b_0 : decode cJ2_length_9d52b 0 = .ok (.aload_n 0, 1) := by decide +kernel
theorem dJ2_length_9d52b_1 : decode cJ2_length_9d52b 1 = .ok (.arraylength, 1) := by decide +kernel
theorem dJ2_length_9d52b_2 : decode cJ2_length_9d52b 2 = .ok (.iconst 1, 1) := by decide +kernel
theorem dJ2_length_9d52b_3 : decode cJ2_length_9d52b 3 = .ok (.ishr, 1) := by decide +kernel
theorem dJ2_length_9d52b_4 : decode cJ2_length_9d52b 4 = .ok (.ireturn, 1) := by decide +kernel
theorem dJ2_charAt_3b067_0 : decode cJ2_charAt_3b067 0 = .ok (.iload_n 1, 1) := by decide +kernel
theorem dJ2_charAt_3b067_1 : decode cJ2_charAt_3b067 1 = .ok (.aload_n 0, 1) := by decide +kernel
theorem dJ2_charAt_3b067_2 : decode cJ2_charAt_3b067 2 = .ok (.invokestatic 67, 3) := by decide +kernel
theorem dJ2_charAt_3b067_5 : decode cJ2_charAt_3b067 5 = .ok (.aload_n 0, 1) := by decide +kernel
theorem dJ2_charAt_3b067_6 : decode cJ2_charAt_3b067 6 = .ok (.iload_n 1, 1) := by decide +kernel
theorem dJ2_charAt_3b067_7 : decode cJ2_charAt_3b067 7 = .ok (.invokestatic 71, 3) := by decide +kernel
theorem dJ2_charAt_3b067_10 : decode cJ2_charAt_3b067 10 = .ok (.ireturn, 1) := by decide +kernel
theorem dJ2_checkIndex_2214a_0 : decode cJ2_checkIndex_2214a 0 = .ok (.iload_n 0, 1) := by decide +kernel
theorem dJ2_checkIndex_2214a_1 : decode cJ2_checkIndex_2214a 1 = .ok (.aload_n 1, 1) := by decide +kernel
theorem dJ2_checkIndex_2214a_2 : decode cJ2_checkIndex_2214a 2 = .ok (.invokestatic 48, 3) := by decide +kernel
theorem dJ2_checkIndex_2214a_5 : decode cJ2_checkIndex_2214a 5 = .ok (.invokestatic 414, 3) := by decide +kernel
theorem dJ2_checkIndex_2214a_8 : decode cJ2_checkIndex_2214a 8 = .ok (.return_, 1) := by decide +kernel
end
section
theorem dJ3_checkIndex_8e157_0 : decode cJ3_checkIndex_8e157 0 = .ok (.iload_n 0, 1) := by decide +kernel
theorem dJ3_checkIndex_8e157_1 : decode cJ3_checkIndex_8e157 1 = .ok (.ifCond .lt 8, 3) := by decide +kernel
theorem dJ3_checkIndex_8e157_4 : decode cJ3_checkIndex_8e157 4 = .ok (.iload_n 0, 1) := by decide +kernel
theorem dJ3_checkIndex_8e157_5 : decode cJ3_checkIndex_8e157 5 = .ok (.iload_n 1, 1) := by decide +kernel
theorem dJ3_checkIndex_8e157_6 : decode cJ3_checkIndex_8e157 6 = .ok (.if_icmp .lt 10, 3) := by decide +kernel
theorem dJ3_checkIndex_8e157_9 : decode cJ3_checkIndex_8e157 9 = .ok (.aload_n 2, 1) := by decide +kernel
theorem dJ3_checkIndex_8e157_10 : decode cJ3_checkIndex_8e157 10 = .ok (.iload_n 0, 1) := by decide +kernel
theorem dJ3_checkIndex_8e157_11 : decode cJ3_checkIndex_8e157 11 = .ok (.iload_n 1, 1) := by decide +kernel
theorem dJ3_checkIndex_8e157_12 : decode cJ3_checkIndex_8e157 12 = .ok (.invokestatic 95, 3) := by decide +kernel
theorem dJ3_checkIndex_8e157_15 : decode cJ3_checkIndex_8e157 15 = .ok (.athrow, 1) := by decide +kernel
theorem dJ3_checkIndex_8e157_16 : decode cJ3_checkIndex_8e157 16 = .ok (.iload_n 0, 1) := by decide +kernel
theorem dJ3_checkIndex_8e157_17 : decode cJ3_checkIndex_8e157 17 = .ok (.ireturn, 1) := by decide +kernel
end
section
theorem dJ7_fill_53178_0 : decode cJ7_fill_53178 0 = .ok (.iconst 0, 1) := by decide +kernel
theorem dJ7_fill_53178_1 : decode cJ7_fill_53178 1 = .ok (.istore_n 2, 1) := by decide +kernel
theorem dJ7_fill_53178_2 : decode cJ7_fill_53178 2 = .ok (.aload_n 0, 1) := by decide +kernel
theorem dJ7_fill_53178_3 : decode cJ7_fill_53178 3 = .ok (.arraylength, 1) := by decide +kernel
theorem dJ7_fill_53178_4 : decode cJ7_fill_53178 4 = .ok (.istore_n 3, 1) := by decide +kernel
theorem dJ7_fill_53178_5 : decode cJ7_fill_53178 5 = .ok (.iload_n 2, 1) := by decide +kernel
theorem dJ7_fill_53178_6 : decode cJ7_fill_53178 6 = .ok (.iload_n 3, 1) := by decide +kernel
theorem dJ7_fill_53178_7 : decode cJ7_fill_53178 7 = .ok (.if_icmp .ge 13, 3) := by decide +kernel
theorem dJ7_fill_53178_10 : decode cJ7_fill_53178 10 = .ok (.aload_n 0, 1) := by decide +kernel
theorem dJ7_fill_53178_11 : decode cJ7_fill_53178 11 = .ok (.iload_n 2, 1) := by decide +kernel
theorem dJ7_fill_53178_12 : decode cJ7_fill_53178 12 = .ok (.iload_n 1, 1) := by decide +kernel
theorem dJ7_fill_53178_13 : decode cJ7_fill_53178 13 = .ok (.iastore, 1) := by decide +kernel
theorem dJ7_fill_53178_14 : decode cJ7_fill_53178 14 = .ok (.iinc 2 1, 3) := by decide +kernel
theorem dJ7_fill_53178_17 : decode cJ7_fill_53178 17 = .ok (.goto (-12), 3) := by decide +kernel
theorem dJ7_fill_53178_20 : decode cJ7_fill_53178 20 = .ok (.return_, 1) := by decide +kernel
end
section
theorem dJ9_max_7cf53_0 : decode cJ9_max_7cf53 0 = .ok (.iload_n 0, 1) := by decide +kernel
theorem dJ9_max_7cf53_1 : decode cJ9_max_7cf53 1 = .ok (.iload_n 1, 1) := by decide +kernel
theorem dJ9_max_7cf53_2 : decode cJ9_max_7cf53 2 = .ok (.if_icmp .lt 7, 3) := by decide +kernel
theorem dJ9_max_7cf53_5 : decode cJ9_max_7cf53 5 = .ok (.iload_n 0, 1) := by decide +kernel
theorem dJ9_max_7cf53_6 : decode cJ9_max_7cf53 6 = .ok (.goto 4, 3) := by decide +kernel
theorem dJ9_max_7cf53_9 : decode cJ9_max_7cf53 9 = .ok (.iload_n 1, 1) := by decide +kernel
theorem dJ9_max_7cf53_10 : decode cJ9_max_7cf53 10 = .ok (.ireturn, 1) := by decide +kernel
theorem dJ9_min_7cf53_0 : decode cJ9_min_7cf53 0 = .ok (.iload_n 0, 1) := by decide +kernel
theorem dJ9_min_7cf53_1 : decode cJ9_min_7cf53 1 = .ok (.iload_n 1, 1) := by decide +kernel
theorem dJ9_min_7cf53_2 : decode cJ9_min_7cf53 2 = .ok (.if_icmp .gt 7, 3) := by decide +kernel
theorem dJ9_min_7cf53_5 : decode cJ9_min_7cf53 5 = .ok (.iload_n 0, 1) := by decide +kernel
theorem dJ9_min_7cf53_6 : decode cJ9_min_7cf53 6 = .ok (.goto 4, 3) := by decide +kernel
theorem dJ9_min_7cf53_9 : decode cJ9_min_7cf53 9 = .ok (.iload_n 1, 1) := by decide +kernel
theorem dJ9_min_7cf53_10 : decode cJ9_min_7cf53 10 = .ok (.ireturn, 1) := by decide +kernel
end
section
theorem dJx00060_init_a7421_0 : decode cJx00060_init_a7421 0 = .ok (.aload_n 0, 1) := by decide +kernel
theorem dJx00060_init_a7421_1 : decode cJx00060_init_a7421 1 = .ok (.aload_n 1, 1) := by decide +kernel
theorem dJx00060_init_a7421_2 : decode cJx00060_init_a7421 2 = .ok (.invokespecial 7, 3) := by decide +kernel
theorem dJx00060_init_a7421_5 : decode cJx00060_init_a7421 5 = .ok (.return_, 1) := by decide +kernel
end
section
theorem dL_append_0 : decode cL_append 0 = .ok (.aload_n 2, 1) := by decide +kernel
theorem dL_append_1 : decode cL_append 1 = .ok (.iconst 0, 1) := by decide +kernel
theorem dL_append_2 : decode cL_append 2 = .ok (.aload_n 0, 1) := by decide +kernel
theorem dL_append_3 : decode cL_append 3 = .ok (.iload_n 1, 1) := by decide +kernel
theorem dL_append_4 : decode cL_append 4 = .ok (.invokevirtual 7, 3) := by decide +kernel
theorem dL_append_7 : decode cL_append 7 = .ok (.i2l, 1) := by decide +kernel
theorem dL_append_8 : decode cL_append 8 = .ok (.lastore, 1) := by decide +kernel
theorem dL_append_9 : decode cL_append 9 = .ok (.goto 9, 3) := by decide +kernel
theorem dL_append_12 : decode cL_append 12 = .ok (.astore_n 3, 1) := by decide +kernel
theorem dL_append_13 : decode cL_append 13 = .ok (.iconst 1, 1) := by decide +kernel
theorem dL_append_14 : decode cL_append 14 = .ok (.ireturn, 1) := by decide +kernel
theorem dL_append_15 : decode cL_append 15 = .ok (.astore_n 3, 1) := by decide +kernel
theorem dL_append_16 : decode cL_append 16 = .ok (.iconst 2, 1) := by decide +kernel
theorem dL_append_17 : decode cL_append 17 = .ok (.ireturn, 1) := by decide +kernel
theorem dL_append_18 : decode cL_append 18 = .ok (.iconst 0, 1) := by decide +kernel
theorem dL_append_19 : decode cL_append 19 = .ok (.ireturn, 1) := by decide +kernel
theorem dL_insert_0 : decode cL_insert 0 = .ok (.aload_n 2, 1) := by decide +kernel
theorem dL_insert_1 : decode cL_insert 1 = .ok (.iconst 0, 1) := by decide +kernel
theorem dL_insert_2 : decode cL_insert 2 = .ok (.aload_n 0, 1) := by decide +kernel
theorem dL_insert_3 : decode cL_insert 3 = .ok (.iload_n 1, 1) := by decide +kernel
theorem dL_insert_4 : decode cL_insert 4 = .ok (.invokevirtual 17, 3) := by decide +kernel
theorem dL_insert_7 : decode cL_insert 7 = .ok (.i2l, 1) := by decide +kernel
theorem dL_insert_8 : decode cL_insert 8 = .ok (.lastore, 1) := by decide +kernel
theorem dL_insert_9 : decode cL_insert 9 = .ok (.goto 12, 3) := by decide +kernel
theorem dL_insert_12 : decode cL_insert 12 = .ok (.astore_n 3, 1) := by decide +kernel
theorem dL_insert_13 : decode cL_insert 13 = .ok (.iconst 1, 1) := by decide +kernel
theorem dL_insert_14 : decode cL_insert 14 = .ok (.ireturn, 1) := by decide +kernel
theorem dL_insert_15 : decode cL_insert 15 = .ok (.astore_n 3, 1) := by decide +kernel
theorem dL_insert_16 : decode cL_insert 16 = .ok (.iconst 2, 1) := by decide +kernel
theorem dL_insert_17 : decode cL_insert 17 = .ok (.ireturn, 1) := by decide +kernel
theorem dL_insert_18 : decode cL_insert 18 = .ok (.astore_n 3, 1) := by decide +kernel
theorem dL_insert_19 : decode cL_insert 19 = .ok (.iconst 3, 1) := by decide +kernel
theorem dL_insert_20 : decode cL_insert 20 = .ok (.ireturn, 1) := by decide +kernel
theorem dL_insert_21 : decode cL_insert 21 = .ok (.iconst 0, 1) := by decide +kernel
theorem dL_insert_22 : decode cL_insert 22 = .ok (.ireturn, 1) := by decide +kernel
theorem dL_errorPosition_0 : decode cL_errorPosition 0 = .ok (.aload_n 1, 1) := by decide +kernel
theorem dL_errorPosition_1 : decode cL_errorPosition 1 = .ok (.iconst 0, 1) := by decide +kernel
theorem dL_errorPosition_2 : decode cL_errorPosition 2 = .ok (.aload_n 0, 1) := by decide +kernel
theorem dL_errorPosition_3 : decode cL_errorPosition 3 = .ok (.invokevirtual 23, 3) := by decide +kernel
theorem dL_errorPosition_6 : decode cL_errorPosition 6 = .ok (.i2l, 1) := by decide +kernel
theorem dL_errorPosition_7 : decode cL_errorPosition 7 = .ok (.lastore, 1) := by decide +kernel
theorem dL_errorPosition_8 : decode cL_errorPosition 8 = .ok (.goto 6, 3) := by decide +kernel
theorem dL_errorPosition_11 : decode cL_errorPosition 11 = .ok (.astore_n 2, 1) := by decide +kernel
theorem dL_errorPosition_12 : decode cL_errorPosition 12 = .ok (.iconst 1, 1) := by decide +kernel
theorem dL_errorPosition_13 : decode cL_errorPosition 13 = .ok (.ireturn, 1) := by decide +kernel
theorem dL_errorPosition_14 : decode cL_errorPosition 14 = .ok (.iconst 0, 1) := by decide +kernel
theorem dL_errorPosition_15 : decode cL_errorPosition 15 = .ok (.ireturn, 1) := by decide +kernel
theorem dL_remove_0 : decode cL_remove 0 = .ok (.aload_n 2, 1) := by decide +kernel
theorem dL_remove_1 : decode cL_remove 1 = .ok (.iconst 0, 1) := by decide +kernel
theorem dL_remove_2 : decode cL_remove 2 = .ok (.aload_n 0, 1) := by decide +kernel
theorem dL_remove_3 : decode cL_remove 3 = .ok (.iload_n 1, 1) := by decide +kernel
theorem dL_remove_4 : decode cL_remove 4 = .ok (.invokevirtual 29, 3) := by decide +kernel
theorem dL_remove_7 : decode cL_remove 7 = .ok (.i2l, 1) := by decide +kernel
theorem dL_remove_8 : decode cL_remove 8 = .ok (.lastore, 1) := by decide +kernel
theorem dL_remove_9 : decode cL_remove 9 = .ok (.goto 6, 3) := by decide +kernel
theorem dL_remove_12 : decode cL_remove 12 = .ok (.astore_n 3, 1) := by decide +kernel
theorem dL_remove_13 : decode cL_remove 13 = .ok (.iconst 1, 1) := by decide +kernel
theorem dL_remove_14 : decode cL_remove 14 = .ok (.ireturn, 1) := by decide +kernel
theorem dL_remove_15 : decode cL_remove 15 = .ok (.iconst 0, 1) := by decide +kernel
theorem dL_remove_16 : decode cL_remove 16 = .ok (.ireturn, 1) := by decide +kernel
theorem dL_move_0 : decode cL_move 0 = .ok (.aload_n 3, 1) := by decide +kernel
theorem dL_move_1 : decode cL_move 1 = .ok (.iconst 0, 1) := by decide +kernel
theorem dL_move_2 : decode cL_move 2 = .ok (.aload_n 0, 1) := by decide +kernel
theorem dL_move_3 : decode cL_move 3 = .ok (.iload_n 1, 1) := by decide +kernel
theorem dL_move_4 : decode cL_move 4 = .ok (.iload_n 2, 1) := by decide +kernel
theorem dL_move_5 : decode cL_move 5 = .ok (.invokevirtual 32, 3) := by decide +kernel
theorem dL_move_8 : decode cL_move 8 = .ok (.i2l, 1) := by decide +kernel
theorem dL_move_9 : decode cL_move 9 = .ok (.lastore, 1) := by decide +kernel
theorem dL_move_10 : decode cL_move 10 = .ok (.goto 7, 3) := by decide +kernel
theorem dL_move_13 : decode cL_move 13 = .ok (.astore 4, 2) := by decide +kernel
theorem dL_move_15 : decode cL_move 15 = .ok (.iconst 1, 1) := by decide +kernel
theorem dL_move_16 : decode cL_move 16 = .ok (.ireturn, 1) := by decide +kernel
theorem dL_move_17 : decode cL_move 17 = .ok (.iconst 0, 1) := by decide +kernel
theorem dL_move_18 : decode cL_move 18 = .ok (.ireturn, 1) := by decide +kernel
theorem dL_item_0 : decode cL_item 0 = .ok (.aload_n 3, 1) := by decide +kernel
theorem dL_item_1 : decode cL_item 1 = .ok (.iconst 0, 1) := by decide +kernel
theorem dL_item_2 : decode cL_item 2 = .ok (.aload_n 0, 1) := by decide +kernel
theorem dL_item_3 : decode cL_item 3 = .ok (.iload_n 1, 1) := by decide +kernel
theorem dL_item_4 : decode cL_item 4 = .ok (.iload_n 2, 1) := by decide +kernel
theorem dL_item_5 : decode cL_item 5 = .ok (.invokevirtual 36, 3) := by decide +kernel
theorem dL_item_8 : decode cL_item 8 = .ok (.i2l, 1) := by decide +kernel
theorem dL_item_9 : decode cL_item 9 = .ok (.lastore, 1) := by decide +kernel
theorem dL_item_10 : decode cL_item 10 = .ok (.goto 11, 3) := by decide +kernel
theorem dL_item_13 : decode cL_item 13 = .ok (.astore 4, 2) := by decide +kernel
theorem dL_item_15 : decode cL_item 15 = .ok (.iconst 1, 1) := by decide +kernel
theorem dL_item_16 : decode cL_item 16 = .ok (.ireturn, 1) := by decide +kernel
theorem dL_item_17 : decode cL_item 17 = .ok (.astore 4, 2) := by decide +kernel
theorem dL_item_19 : decode cL_item 19 = .ok (.iconst 2, 1) := by decide +kernel
theorem dL_item_20 : decode cL_item 20 = .ok (.ireturn, 1) := by decide +kernel
theorem dL_item_21 : decode cL_item 21 = .ok (.iconst 0, 1) := by decide +kernel
theorem dL_item_22 : decode cL_item 22 = .ok (.ireturn, 1) := by decide +kernel
theorem dL_nameCharacter_0 : decode cL_nameCharacter 0 = .ok (.aload_n 3, 1) := by decide +kernel
theorem dL_nameCharacter_1 : decode cL_nameCharacter 1 = .ok (.iconst 0, 1) := by decide +kernel
theorem dL_nameCharacter_2 : decode cL_nameCharacter 2 = .ok (.aload_n 0, 1) := by decide +kernel
theorem dL_nameCharacter_3 : decode cL_nameCharacter 3 = .ok (.iload_n 1, 1) := by decide +kernel
theorem dL_nameCharacter_4 : decode cL_nameCharacter 4 = .ok (.iload_n 2, 1) := by decide +kernel
theorem dL_nameCharacter_5 : decode cL_nameCharacter 5 = .ok (.invokevirtual 39, 3) := by decide +kernel
theorem dL_nameCharacter_8 : decode cL_nameCharacter 8 = .ok (.i2l, 1) := by decide +kernel
theorem dL_nameCharacter_9 : decode cL_nameCharacter 9 = .ok (.lastore, 1) := by decide +kernel
theorem dL_nameCharacter_10 : decode cL_nameCharacter 10 = .ok (.goto 11, 3) := by decide +kernel
theorem dL_nameCharacter_13 : decode cL_nameCharacter 13 = .ok (.astore 4, 2) := by decide +kernel
theorem dL_nameCharacter_15 : decode cL_nameCharacter 15 = .ok (.iconst 1, 1) := by decide +kernel
theorem dL_nameCharacter_16 : decode cL_nameCharacter 16 = .ok (.ireturn, 1) := by decide +kernel
theorem dL_nameCharacter_17 : decode cL_nameCharacter 17 = .ok (.astore 4, 2) := by decide +kernel
theorem dL_nameCharacter_19 : decode cL_nameCharacter 19 = .ok (.iconst 2, 1) := by decide +kernel
theorem dL_nameCharacter_20 : decode cL_nameCharacter 20 = .ok (.ireturn, 1) := by decide +kernel
theorem dL_nameCharacter_21 : decode cL_nameCharacter 21 = .ok (.iconst 0, 1) := by decide +kernel
theorem dL_nameCharacter_22 : decode cL_nameCharacter 22 = .ok (.ireturn, 1) := by decide +kernel
theorem dL_setForm_0 : decode cL_setForm 0 = .ok (.aload_n 3, 1) := by decide +kernel
theorem dL_setForm_1 : decode cL_setForm 1 = .ok (.iconst 0, 1) := by decide +kernel
theorem dL_setForm_2 : decode cL_setForm 2 = .ok (.aload_n 0, 1) := by decide +kernel
theorem dL_setForm_3 : decode cL_setForm 3 = .ok (.iload_n 1, 1) := by decide +kernel
theorem dL_setForm_4 : decode cL_setForm 4 = .ok (.iload_n 2, 1) := by decide +kernel
theorem dL_setForm_5 : decode cL_setForm 5 = .ok (.invokevirtual 43, 3) := by decide +kernel
theorem dL_setForm_8 : decode cL_setForm 8 = .ok (.i2l, 1) := by decide +kernel
theorem dL_setForm_9 : decode cL_setForm 9 = .ok (.lastore, 1) := by decide +kernel
theorem dL_setForm_10 : decode cL_setForm 10 = .ok (.goto 11, 3) := by decide +kernel
theorem dL_setForm_13 : decode cL_setForm 13 = .ok (.astore 4, 2) := by decide +kernel
theorem dL_setForm_15 : decode cL_setForm 15 = .ok (.iconst 1, 1) := by decide +kernel
theorem dL_setForm_16 : decode cL_setForm 16 = .ok (.ireturn, 1) := by decide +kernel
theorem dL_setForm_17 : decode cL_setForm 17 = .ok (.astore 4, 2) := by decide +kernel
theorem dL_setForm_19 : decode cL_setForm 19 = .ok (.iconst 2, 1) := by decide +kernel
theorem dL_setForm_20 : decode cL_setForm 20 = .ok (.ireturn, 1) := by decide +kernel
theorem dL_setForm_21 : decode cL_setForm 21 = .ok (.iconst 0, 1) := by decide +kernel
theorem dL_setForm_22 : decode cL_setForm 22 = .ok (.ireturn, 1) := by decide +kernel
theorem dL_labelAddress_0 : decode cL_labelAddress 0 = .ok (.aload_n 2, 1) := by decide +kernel
theorem dL_labelAddress_1 : decode cL_labelAddress 1 = .ok (.iconst 0, 1) := by decide +kernel
theorem dL_labelAddress_2 : decode cL_labelAddress 2 = .ok (.aload_n 0, 1) := by decide +kernel
theorem dL_labelAddress_3 : decode cL_labelAddress 3 = .ok (.iload_n 1, 1) := by decide +kernel
theorem dL_labelAddress_4 : decode cL_labelAddress 4 = .ok (.invokevirtual 46, 3) := by decide +kernel
theorem dL_labelAddress_7 : decode cL_labelAddress 7 = .ok (.i2l, 1) := by decide +kernel
theorem dL_labelAddress_8 : decode cL_labelAddress 8 = .ok (.lastore, 1) := by decide +kernel
theorem dL_labelAddress_9 : decode cL_labelAddress 9 = .ok (.goto 9, 3) := by decide +kernel
theorem dL_labelAddress_12 : decode cL_labelAddress 12 = .ok (.astore_n 3, 1) := by decide +kernel
theorem dL_labelAddress_13 : decode cL_labelAddress 13 = .ok (.iconst 1, 1) := by decide +kernel
theorem dL_labelAddress_14 : decode cL_labelAddress 14 = .ok (.ireturn, 1) := by decide +kernel
theorem dL_labelAddress_15 : decode cL_labelAddress 15 = .ok (.astore_n 3, 1) := by decide +kernel
theorem dL_labelAddress_16 : decode cL_labelAddress 16 = .ok (.iconst 2, 1) := by decide +kernel
theorem dL_labelAddress_17 : decode cL_labelAddress 17 = .ok (.ireturn, 1) := by decide +kernel
theorem dL_labelAddress_18 : decode cL_labelAddress 18 = .ok (.iconst 0, 1) := by decide +kernel
theorem dL_labelAddress_19 : decode cL_labelAddress 19 = .ok (.ireturn, 1) := by decide +kernel
theorem dL_itemAt_0 : decode cL_itemAt 0 = .ok (.aload_n 2, 1) := by decide +kernel
theorem dL_itemAt_1 : decode cL_itemAt 1 = .ok (.iconst 0, 1) := by decide +kernel
theorem dL_itemAt_2 : decode cL_itemAt 2 = .ok (.aload_n 0, 1) := by decide +kernel
theorem dL_itemAt_3 : decode cL_itemAt 3 = .ok (.iload_n 1, 1) := by decide +kernel
theorem dL_itemAt_4 : decode cL_itemAt 4 = .ok (.invokevirtual 49, 3) := by decide +kernel
theorem dL_itemAt_7 : decode cL_itemAt 7 = .ok (.i2l, 1) := by decide +kernel
theorem dL_itemAt_8 : decode cL_itemAt 8 = .ok (.lastore, 1) := by decide +kernel
theorem dL_itemAt_9 : decode cL_itemAt 9 = .ok (.goto 6, 3) := by decide +kernel
theorem dL_itemAt_12 : decode cL_itemAt 12 = .ok (.astore_n 3, 1) := by decide +kernel
theorem dL_itemAt_13 : decode cL_itemAt 13 = .ok (.iconst 1, 1) := by decide +kernel
theorem dL_itemAt_14 : decode cL_itemAt 14 = .ok (.ireturn, 1) := by decide +kernel
theorem dL_itemAt_15 : decode cL_itemAt 15 = .ok (.iconst 0, 1) := by decide +kernel
theorem dL_itemAt_16 : decode cL_itemAt 16 = .ok (.ireturn, 1) := by decide +kernel
theorem dL_addressIf_0 : decode cL_addressIf 0 = .ok (.aload_n 3, 1) := by decide +kernel
theorem dL_addressIf_1 : decode cL_addressIf 1 = .ok (.iconst 0, 1) := by decide +kernel
theorem dL_addressIf_2 : decode cL_addressIf 2 = .ok (.aload_n 0, 1) := by decide +kernel
theorem dL_addressIf_3 : decode cL_addressIf 3 = .ok (.iload_n 1, 1) := by decide +kernel
theorem dL_addressIf_4 : decode cL_addressIf 4 = .ok (.iload_n 2, 1) := by decide +kernel
theorem dL_addressIf_5 : decode cL_addressIf 5 = .ok (.invokevirtual 52, 3) := by decide +kernel
theorem dL_addressIf_8 : decode cL_addressIf 8 = .ok (.i2l, 1) := by decide +kernel
theorem dL_addressIf_9 : decode cL_addressIf 9 = .ok (.lastore, 1) := by decide +kernel
theorem dL_addressIf_10 : decode cL_addressIf 10 = .ok (.goto 11, 3) := by decide +kernel
theorem dL_addressIf_13 : decode cL_addressIf 13 = .ok (.astore 4, 2) := by decide +kernel
theorem dL_addressIf_15 : decode cL_addressIf 15 = .ok (.iconst 1, 1) := by decide +kernel
theorem dL_addressIf_16 : decode cL_addressIf 16 = .ok (.ireturn, 1) := by decide +kernel
theorem dL_addressIf_17 : decode cL_addressIf 17 = .ok (.astore 4, 2) := by decide +kernel
theorem dL_addressIf_19 : decode cL_addressIf 19 = .ok (.iconst 2, 1) := by decide +kernel
theorem dL_addressIf_20 : decode cL_addressIf 20 = .ok (.ireturn, 1) := by decide +kernel
theorem dL_addressIf_21 : decode cL_addressIf 21 = .ok (.iconst 0, 1) := by decide +kernel
theorem dL_addressIf_22 : decode cL_addressIf 22 = .ok (.ireturn, 1) := by decide +kernel
theorem dL_possibleAddresses_0 : decode cL_possibleAddresses 0 = .ok (.aload_n 2, 1) := by decide +kernel
theorem dL_possibleAddresses_1 : decode cL_possibleAddresses 1 = .ok (.iconst 0, 1) := by decide +kernel
theorem dL_possibleAddresses_2 : decode cL_possibleAddresses 2 = .ok (.aload_n 0, 1) := by decide +kernel
theorem dL_possibleAddresses_3 : decode cL_possibleAddresses 3 = .ok (.iload_n 1, 1) := by decide +kernel
theorem dL_possibleAddresses_4 : decode cL_possibleAddresses 4 = .ok (.invokevirtual 55, 3) := by decide +kernel
theorem dL_possibleAddresses_7 : decode cL_possibleAddresses 7 = .ok (.i2l, 1) := by decide +kernel
theorem dL_possibleAddresses_8 : decode cL_possibleAddresses 8 = .ok (.lastore, 1) := by decide +kernel
theorem dL_possibleAddresses_9 : decode cL_possibleAddresses 9 = .ok (.goto 6, 3) := by decide +kernel
theorem dL_possibleAddresses_12 : decode cL_possibleAddresses 12 = .ok (.astore_n 3, 1) := by decide +kernel
theorem dL_possibleAddresses_13 : decode cL_possibleAddresses 13 = .ok (.iconst 1, 1) := by decide +kernel
theorem dL_possibleAddresses_14 : decode cL_possibleAddresses 14 = .ok (.ireturn, 1) := by decide +kernel
theorem dL_possibleAddresses_15 : decode cL_possibleAddresses 15 = .ok (.iconst 0, 1) := by decide +kernel
theorem dL_possibleAddresses_16 : decode cL_possibleAddresses 16 = .ok (.ireturn, 1) := by decide +kernel
theorem dL_formCount_0 : decode cL_formCount 0 = .ok (.aload_n 2, 1) := by decide +kernel
theorem dL_formCount_1 : decode cL_formCount 1 = .ok (.iconst 0, 1) := by decide +kernel
theorem dL_formCount_2 : decode cL_formCount 2 = .ok (.aload_n 0, 1) := by decide +kernel
theorem dL_formCount_3 : decode cL_formCount 3 = .ok (.iload_n 1, 1) := by decide +kernel
theorem dL_formCount_4 : decode cL_formCount 4 = .ok (.invokevirtual 58, 3) := by decide +kernel
theorem dL_formCount_7 : decode cL_formCount 7 = .ok (.i2l, 1) := by decide +kernel
theorem dL_formCount_8 : decode cL_formCount 8 = .ok (.lastore, 1) := by decide +kernel
theorem dL_formCount_9 : decode cL_formCount 9 = .ok (.goto 6, 3) := by decide +kernel
theorem dL_formCount_12 : decode cL_formCount 12 = .ok (.astore_n 3, 1) := by decide +kernel
theorem dL_formCount_13 : decode cL_formCount 13 = .ok (.iconst 1, 1) := by decide +kernel
theorem dL_formCount_14 : decode cL_formCount 14 = .ok (.ireturn, 1) := by decide +kernel
theorem dL_formCount_15 : decode cL_formCount 15 = .ok (.iconst 0, 1) := by decide +kernel
theorem dL_formCount_16 : decode cL_formCount 16 = .ok (.ireturn, 1) := by decide +kernel
theorem dL_displacement_0 : decode cL_displacement 0 = .ok (.aload_n 2, 1) := by decide +kernel
theorem dL_displacement_1 : decode cL_displacement 1 = .ok (.iconst 0, 1) := by decide +kernel
theorem dL_displacement_2 : decode cL_displacement 2 = .ok (.aload_n 0, 1) := by decide +kernel
theorem dL_displacement_3 : decode cL_displacement 3 = .ok (.iload_n 1, 1) := by decide +kernel
theorem dL_displacement_4 : decode cL_displacement 4 = .ok (.invokevirtual 61, 3) := by decide +kernel
theorem dL_displacement_7 : decode cL_displacement 7 = .ok (.i2l, 1) := by decide +kernel
theorem dL_displacement_8 : decode cL_displacement 8 = .ok (.lastore, 1) := by decide +kernel
theorem dL_displacement_9 : decode cL_displacement 9 = .ok (.goto 12, 3) := by decide +kernel
theorem dL_displacement_12 : decode cL_displacement 12 = .ok (.astore_n 3, 1) := by decide +kernel
theorem dL_displacement_13 : decode cL_displacement 13 = .ok (.iconst 1, 1) := by decide +kernel
theorem dL_displacement_14 : decode cL_displacement 14 = .ok (.ireturn, 1) := by decide +kernel
theorem dL_displacement_15 : decode cL_displacement 15 = .ok (.astore_n 3, 1) := by decide +kernel
theorem dL_displacement_16 : decode cL_displacement 16 = .ok (.iconst 2, 1) := by decide +kernel
theorem dL_displacement_17 : decode cL_displacement 17 = .ok (.ireturn, 1) := by decide +kernel
theorem dL_displacement_18 : decode cL_displacement 18 = .ok (.astore_n 3, 1) := by decide +kernel
theorem dL_displacement_19 : decode cL_displacement 19 = .ok (.iconst 3, 1) := by decide +kernel
theorem dL_displacement_20 : decode cL_displacement 20 = .ok (.ireturn, 1) := by decide +kernel
theorem dL_displacement_21 : decode cL_displacement 21 = .ok (.iconst 0, 1) := by decide +kernel
theorem dL_displacement_22 : decode cL_displacement 22 = .ok (.ireturn, 1) := by decide +kernel
theorem dL_fits_0 : decode cL_fits 0 = .ok (.aload_n 2, 1) := by decide +kernel
theorem dL_fits_1 : decode cL_fits 1 = .ok (.iconst 0, 1) := by decide +kernel
theorem dL_fits_2 : decode cL_fits 2 = .ok (.aload_n 0, 1) := by decide +kernel
theorem dL_fits_3 : decode cL_fits 3 = .ok (.iload_n 1, 1) := by decide +kernel
theorem dL_fits_4 : decode cL_fits 4 = .ok (.invokevirtual 64, 3) := by decide +kernel
theorem dL_fits_7 : decode cL_fits 7 = .ok (.ifCond .eq 7, 3) := by decide +kernel
theorem dL_fits_10 : decode cL_fits 10 = .ok (.lconst 1, 1) := by decide +kernel
theorem dL_fits_11 : decode cL_fits 11 = .ok (.goto 4, 3) := by decide +kernel
theorem dL_fits_14 : decode cL_fits 14 = .ok (.lconst 0, 1) := by decide +kernel
theorem dL_fits_15 : decode cL_fits 15 = .ok (.lastore, 1) := by decide +kernel
theorem dL_fits_16 : decode cL_fits 16 = .ok (.goto 12, 3) := by decide +kernel
theorem dL_fits_19 : decode cL_fits 19 = .ok (.astore_n 3, 1) := by decide +kernel
theorem dL_fits_20 : decode cL_fits 20 = .ok (.iconst 1, 1) := by decide +kernel
theorem dL_fits_21 : decode cL_fits 21 = .ok (.ireturn, 1) := by decide +kernel
theorem dL_fits_22 : decode cL_fits 22 = .ok (.astore_n 3, 1) := by decide +kernel
theorem dL_fits_23 : decode cL_fits 23 = .ok (.iconst 2, 1) := by decide +kernel
theorem dL_fits_24 : decode cL_fits 24 = .ok (.ireturn, 1) := by decide +kernel
theorem dL_fits_25 : decode cL_fits 25 = .ok (.astore_n 3, 1) := by decide +kernel
theorem dL_fits_26 : decode cL_fits 26 = .ok (.iconst 3, 1) := by decide +kernel
theorem dL_fits_27 : decode cL_fits 27 = .ok (.ireturn, 1) := by decide +kernel
theorem dL_fits_28 : decode cL_fits 28 = .ok (.iconst 0, 1) := by decide +kernel
theorem dL_fits_29 : decode cL_fits 29 = .ok (.ireturn, 1) := by decide +kernel
theorem dL_misfits_0 : decode cL_misfits 0 = .ok (.aload_n 1, 1) := by decide +kernel
theorem dL_misfits_1 : decode cL_misfits 1 = .ok (.iconst 0, 1) := by decide +kernel
theorem dL_misfits_2 : decode cL_misfits 2 = .ok (.aload_n 0, 1) := by decide +kernel
theorem dL_misfits_3 : decode cL_misfits 3 = .ok (.invokevirtual 68, 3) := by decide +kernel
theorem dL_misfits_6 : decode cL_misfits 6 = .ok (.i2l, 1) := by decide +kernel
theorem dL_misfits_7 : decode cL_misfits 7 = .ok (.lastore, 1) := by decide +kernel
theorem dL_misfits_8 : decode cL_misfits 8 = .ok (.goto 6, 3) := by decide +kernel
theorem dL_misfits_11 : decode cL_misfits 11 = .ok (.astore_n 2, 1) := by decide +kernel
theorem dL_misfits_12 : decode cL_misfits 12 = .ok (.iconst 1, 1) := by decide +kernel
theorem dL_misfits_13 : decode cL_misfits 13 = .ok (.ireturn, 1) := by decide +kernel
theorem dL_misfits_14 : decode cL_misfits 14 = .ok (.iconst 0, 1) := by decide +kernel
theorem dL_misfits_15 : decode cL_misfits 15 = .ok (.ireturn, 1) := by decide +kernel
theorem dL_neededForm_0 : decode cL_neededForm 0 = .ok (.aload_n 2, 1) := by decide +kernel
theorem dL_neededForm_1 : decode cL_neededForm 1 = .ok (.iconst 0, 1) := by decide +kernel
theorem dL_neededForm_2 : decode cL_neededForm 2 = .ok (.aload_n 0, 1) := by decide +kernel
theorem dL_neededForm_3 : decode cL_neededForm 3 = .ok (.iload_n 1, 1) := by decide +kernel
theorem dL_neededForm_4 : decode cL_neededForm 4 = .ok (.invokevirtual 71, 3) := by decide +kernel
theorem dL_neededForm_7 : decode cL_neededForm 7 = .ok (.i2l, 1) := by decide +kernel
theorem dL_neededForm_8 : decode cL_neededForm 8 = .ok (.lastore, 1) := by decide +kernel
theorem dL_neededForm_9 : decode cL_neededForm 9 = .ok (.goto 12, 3) := by decide +kernel
theorem dL_neededForm_12 : decode cL_neededForm 12 = .ok (.astore_n 3, 1) := by decide +kernel
theorem dL_neededForm_13 : decode cL_neededForm 13 = .ok (.iconst 1, 1) := by decide +kernel
theorem dL_neededForm_14 : decode cL_neededForm 14 = .ok (.ireturn, 1) := by decide +kernel
theorem dL_neededForm_15 : decode cL_neededForm 15 = .ok (.astore_n 3, 1) := by decide +kernel
theorem dL_neededForm_16 : decode cL_neededForm 16 = .ok (.iconst 2, 1) := by decide +kernel
theorem dL_neededForm_17 : decode cL_neededForm 17 = .ok (.ireturn, 1) := by decide +kernel
theorem dL_neededForm_18 : decode cL_neededForm 18 = .ok (.astore_n 3, 1) := by decide +kernel
theorem dL_neededForm_19 : decode cL_neededForm 19 = .ok (.iconst 3, 1) := by decide +kernel
theorem dL_neededForm_20 : decode cL_neededForm 20 = .ok (.ireturn, 1) := by decide +kernel
theorem dL_neededForm_21 : decode cL_neededForm 21 = .ok (.iconst 0, 1) := by decide +kernel
theorem dL_neededForm_22 : decode cL_neededForm 22 = .ok (.ireturn, 1) := by decide +kernel
theorem dL_relax_0 : decode cL_relax 0 = .ok (.aload_n 1, 1) := by decide +kernel
theorem dL_relax_1 : decode cL_relax 1 = .ok (.iconst 0, 1) := by decide +kernel
theorem dL_relax_2 : decode cL_relax 2 = .ok (.aload_n 0, 1) := by decide +kernel
theorem dL_relax_3 : decode cL_relax 3 = .ok (.invokevirtual 74, 3) := by decide +kernel
theorem dL_relax_6 : decode cL_relax 6 = .ok (.i2l, 1) := by decide +kernel
theorem dL_relax_7 : decode cL_relax 7 = .ok (.lastore, 1) := by decide +kernel
theorem dL_relax_8 : decode cL_relax 8 = .ok (.goto 6, 3) := by decide +kernel
theorem dL_relax_11 : decode cL_relax 11 = .ok (.astore_n 2, 1) := by decide +kernel
theorem dL_relax_12 : decode cL_relax 12 = .ok (.iconst 1, 1) := by decide +kernel
theorem dL_relax_13 : decode cL_relax 13 = .ok (.ireturn, 1) := by decide +kernel
theorem dL_relax_14 : decode cL_relax 14 = .ok (.iconst 0, 1) := by decide +kernel
theorem dL_relax_15 : decode cL_relax 15 = .ok (.ireturn, 1) := by decide +kernel
theorem dL_shrink_0 : decode cL_shrink 0 = .ok (.aload_n 1, 1) := by decide +kernel
theorem dL_shrink_1 : decode cL_shrink 1 = .ok (.iconst 0, 1) := by decide +kernel
theorem dL_shrink_2 : decode cL_shrink 2 = .ok (.aload_n 0, 1) := by decide +kernel
theorem dL_shrink_3 : decode cL_shrink 3 = .ok (.invokevirtual 77, 3) := by decide +kernel
theorem dL_shrink_6 : decode cL_shrink 6 = .ok (.i2l, 1) := by decide +kernel
theorem dL_shrink_7 : decode cL_shrink 7 = .ok (.lastore, 1) := by decide +kernel
theorem dL_shrink_8 : decode cL_shrink 8 = .ok (.goto 6, 3) := by decide +kernel
theorem dL_shrink_11 : decode cL_shrink 11 = .ok (.astore_n 2, 1) := by decide +kernel
theorem dL_shrink_12 : decode cL_shrink 12 = .ok (.iconst 1, 1) := by decide +kernel
theorem dL_shrink_13 : decode cL_shrink 13 = .ok (.ireturn, 1) := by decide +kernel
theorem dL_shrink_14 : decode cL_shrink 14 = .ok (.iconst 0, 1) := by decide +kernel
theorem dL_shrink_15 : decode cL_shrink 15 = .ok (.ireturn, 1) := by decide +kernel
theorem dL_leastSize_0 : decode cL_leastSize 0 = .ok (.aload_n 1, 1) := by decide +kernel
theorem dL_leastSize_1 : decode cL_leastSize 1 = .ok (.iconst 0, 1) := by decide +kernel
theorem dL_leastSize_2 : decode cL_leastSize 2 = .ok (.aload_n 0, 1) := by decide +kernel
theorem dL_leastSize_3 : decode cL_leastSize 3 = .ok (.invokevirtual 80, 3) := by decide +kernel
theorem dL_leastSize_6 : decode cL_leastSize 6 = .ok (.i2l, 1) := by decide +kernel
theorem dL_leastSize_7 : decode cL_leastSize 7 = .ok (.lastore, 1) := by decide +kernel
theorem dL_leastSize_8 : decode cL_leastSize 8 = .ok (.goto 9, 3) := by decide +kernel
theorem dL_leastSize_11 : decode cL_leastSize 11 = .ok (.astore_n 2, 1) := by decide +kernel
theorem dL_leastSize_12 : decode cL_leastSize 12 = .ok (.iconst 1, 1) := by decide +kernel
theorem dL_leastSize_13 : decode cL_leastSize 13 = .ok (.ireturn, 1) := by decide +kernel
theorem dL_leastSize_14 : decode cL_leastSize 14 = .ok (.astore_n 2, 1) := by decide +kernel
theorem dL_leastSize_15 : decode cL_leastSize 15 = .ok (.iconst 2, 1) := by decide +kernel
theorem dL_leastSize_16 : decode cL_leastSize 16 = .ok (.ireturn, 1) := by decide +kernel
theorem dL_leastSize_17 : decode cL_leastSize 17 = .ok (.iconst 0, 1) := by decide +kernel
theorem dL_leastSize_18 : decode cL_leastSize 18 = .ok (.ireturn, 1) := by decide +kernel
theorem dL_optimize_0 : decode cL_optimize 0 = .ok (.aload_n 1, 1) := by decide +kernel
theorem dL_optimize_1 : decode cL_optimize 1 = .ok (.iconst 0, 1) := by decide +kernel
theorem dL_optimize_2 : decode cL_optimize 2 = .ok (.aload_n 0, 1) := by decide +kernel
theorem dL_optimize_3 : decode cL_optimize 3 = .ok (.invokevirtual 85, 3) := by decide +kernel
theorem dL_optimize_6 : decode cL_optimize 6 = .ok (.i2l, 1) := by decide +kernel
theorem dL_optimize_7 : decode cL_optimize 7 = .ok (.lastore, 1) := by decide +kernel
theorem dL_optimize_8 : decode cL_optimize 8 = .ok (.goto 9, 3) := by decide +kernel
theorem dL_optimize_11 : decode cL_optimize 11 = .ok (.astore_n 2, 1) := by decide +kernel
theorem dL_optimize_12 : decode cL_optimize 12 = .ok (.iconst 1, 1) := by decide +kernel
theorem dL_optimize_13 : decode cL_optimize 13 = .ok (.ireturn, 1) := by decide +kernel
theorem dL_optimize_14 : decode cL_optimize 14 = .ok (.astore_n 2, 1) := by decide +kernel
theorem dL_optimize_15 : decode cL_optimize 15 = .ok (.iconst 2, 1) := by decide +kernel
theorem dL_optimize_16 : decode cL_optimize 16 = .ok (.ireturn, 1) := by decide +kernel
theorem dL_optimize_17 : decode cL_optimize 17 = .ok (.iconst 0, 1) := by decide +kernel
theorem dL_optimize_18 : decode cL_optimize 18 = .ok (.ireturn, 1) := by decide +kernel
theorem dL_consistentChoices_0 : decode cL_consistentChoices 0 = .ok (.aload_n 1, 1) := by decide +kernel
theorem dL_consistentChoices_1 : decode cL_consistentChoices 1 = .ok (.iconst 0, 1) := by decide +kernel
theorem dL_consistentChoices_2 : decode cL_consistentChoices 2 = .ok (.aload_n 0, 1) := by decide +kernel
theorem dL_consistentChoices_3 : decode cL_consistentChoices 3 = .ok (.invokevirtual 88, 3) := by decide +kernel
theorem dL_consistentChoices_6 : decode cL_consistentChoices 6 = .ok (.i2l, 1) := by decide +kernel
theorem dL_consistentChoices_7 : decode cL_consistentChoices 7 = .ok (.lastore, 1) := by decide +kernel
theorem dL_consistentChoices_8 : decode cL_consistentChoices 8 = .ok (.goto 9, 3) := by decide +kernel
theorem dL_consistentChoices_11 : decode cL_consistentChoices 11 = .ok (.astore_n 2, 1) := by decide +kernel
theorem dL_consistentChoices_12 : decode cL_consistentChoices 12 = .ok (.iconst 1, 1) := by decide +kernel
theorem dL_consistentChoices_13 : decode cL_consistentChoices 13 = .ok (.ireturn, 1) := by decide +kernel
theorem dL_consistentChoices_14 : decode cL_consistentChoices 14 = .ok (.astore_n 2, 1) := by decide +kernel
theorem dL_consistentChoices_15 : decode cL_consistentChoices 15 = .ok (.iconst 2, 1) := by decide +kernel
theorem dL_consistentChoices_16 : decode cL_consistentChoices 16 = .ok (.ireturn, 1) := by decide +kernel
theorem dL_consistentChoices_17 : decode cL_consistentChoices 17 = .ok (.iconst 0, 1) := by decide +kernel
theorem dL_consistentChoices_18 : decode cL_consistentChoices 18 = .ok (.ireturn, 1) := by decide +kernel
theorem dL_averageForm_0 : decode cL_averageForm 0 = .ok (.aload_n 1, 1) := by decide +kernel
theorem dL_averageForm_1 : decode cL_averageForm 1 = .ok (.iconst 0, 1) := by decide +kernel
theorem dL_averageForm_2 : decode cL_averageForm 2 = .ok (.aload_n 0, 1) := by decide +kernel
theorem dL_averageForm_3 : decode cL_averageForm 3 = .ok (.invokevirtual 91, 3) := by decide +kernel
theorem dL_averageForm_6 : decode cL_averageForm 6 = .ok (.dastore, 1) := by decide +kernel
theorem dL_averageForm_7 : decode cL_averageForm 7 = .ok (.goto 6, 3) := by decide +kernel
theorem dL_averageForm_10 : decode cL_averageForm 10 = .ok (.astore_n 2, 1) := by decide +kernel
theorem dL_averageForm_11 : decode cL_averageForm 11 = .ok (.iconst 1, 1) := by decide +kernel
theorem dL_averageForm_12 : decode cL_averageForm 12 = .ok (.ireturn, 1) := by decide +kernel
theorem dL_averageForm_13 : decode cL_averageForm 13 = .ok (.iconst 0, 1) := by decide +kernel
theorem dL_averageForm_14 : decode cL_averageForm 14 = .ok (.ireturn, 1) := by decide +kernel
theorem dL_literalCount_0 : decode cL_literalCount 0 = .ok (.aload_n 2, 1) := by decide +kernel
theorem dL_literalCount_1 : decode cL_literalCount 1 = .ok (.iconst 0, 1) := by decide +kernel
theorem dL_literalCount_2 : decode cL_literalCount 2 = .ok (.aload_n 0, 1) := by decide +kernel
theorem dL_literalCount_3 : decode cL_literalCount 3 = .ok (.iload_n 1, 1) := by decide +kernel
theorem dL_literalCount_4 : decode cL_literalCount 4 = .ok (.invokevirtual 97, 3) := by decide +kernel
theorem dL_literalCount_7 : decode cL_literalCount 7 = .ok (.i2l, 1) := by decide +kernel
theorem dL_literalCount_8 : decode cL_literalCount 8 = .ok (.lastore, 1) := by decide +kernel
theorem dL_literalCount_9 : decode cL_literalCount 9 = .ok (.goto 6, 3) := by decide +kernel
theorem dL_literalCount_12 : decode cL_literalCount 12 = .ok (.astore_n 3, 1) := by decide +kernel
theorem dL_literalCount_13 : decode cL_literalCount 13 = .ok (.iconst 1, 1) := by decide +kernel
theorem dL_literalCount_14 : decode cL_literalCount 14 = .ok (.ireturn, 1) := by decide +kernel
theorem dL_literalCount_15 : decode cL_literalCount 15 = .ok (.iconst 0, 1) := by decide +kernel
theorem dL_literalCount_16 : decode cL_literalCount 16 = .ok (.ireturn, 1) := by decide +kernel
theorem dL_literal_0 : decode cL_literal 0 = .ok (.aload_n 3, 1) := by decide +kernel
theorem dL_literal_1 : decode cL_literal 1 = .ok (.iconst 0, 1) := by decide +kernel
theorem dL_literal_2 : decode cL_literal 2 = .ok (.aload_n 0, 1) := by decide +kernel
theorem dL_literal_3 : decode cL_literal 3 = .ok (.iload_n 1, 1) := by decide +kernel
theorem dL_literal_4 : decode cL_literal 4 = .ok (.iload_n 2, 1) := by decide +kernel
theorem dL_literal_5 : decode cL_literal 5 = .ok (.invokevirtual 100, 3) := by decide +kernel
theorem dL_literal_8 : decode cL_literal 8 = .ok (.i2l, 1) := by decide +kernel
theorem dL_literal_9 : decode cL_literal 9 = .ok (.lastore, 1) := by decide +kernel
theorem dL_literal_10 : decode cL_literal 10 = .ok (.goto 7, 3) := by decide +kernel
theorem dL_literal_13 : decode cL_literal 13 = .ok (.astore 4, 2) := by decide +kernel
theorem dL_literal_15 : decode cL_literal 15 = .ok (.iconst 1, 1) := by decide +kernel
theorem dL_literal_16 : decode cL_literal 16 = .ok (.ireturn, 1) := by decide +kernel
theorem dL_literal_17 : decode cL_literal 17 = .ok (.iconst 0, 1) := by decide +kernel
theorem dL_literal_18 : decode cL_literal 18 = .ok (.ireturn, 1) := by decide +kernel
theorem dL_literalAddress_0 : decode cL_literalAddress 0 = .ok (.aload_n 3, 1) := by decide +kernel
theorem dL_literalAddress_1 : decode cL_literalAddress 1 = .ok (.iconst 0, 1) := by decide +kernel
theorem dL_literalAddress_2 : decode cL_literalAddress 2 = .ok (.aload_n 0, 1) := by decide +kernel
theorem dL_literalAddress_3 : decode cL_literalAddress 3 = .ok (.iload_n 1, 1) := by decide +kernel
theorem dL_literalAddress_4 : decode cL_literalAddress 4 = .ok (.iload_n 2, 1) := by decide +kernel
theorem dL_literalAddress_5 : decode cL_literalAddress 5 = .ok (.invokevirtual 103, 3) := by decide +kernel
theorem dL_literalAddress_8 : decode cL_literalAddress 8 = .ok (.i2l, 1) := by decide +kernel
theorem dL_literalAddress_9 : decode cL_literalAddress 9 = .ok (.lastore, 1) := by decide +kernel
theorem dL_literalAddress_10 : decode cL_literalAddress 10 = .ok (.goto 7, 3) := by decide +kernel
theorem dL_literalAddress_13 : decode cL_literalAddress 13 = .ok (.astore 4, 2) := by decide +kernel
theorem dL_literalAddress_15 : decode cL_literalAddress 15 = .ok (.iconst 1, 1) := by decide +kernel
theorem dL_literalAddress_16 : decode cL_literalAddress 16 = .ok (.ireturn, 1) := by decide +kernel
theorem dL_literalAddress_17 : decode cL_literalAddress 17 = .ok (.iconst 0, 1) := by decide +kernel
theorem dL_literalAddress_18 : decode cL_literalAddress 18 = .ok (.ireturn, 1) := by decide +kernel
theorem dL_poolOf_0 : decode cL_poolOf 0 = .ok (.aload_n 2, 1) := by decide +kernel
theorem dL_poolOf_1 : decode cL_poolOf 1 = .ok (.iconst 0, 1) := by decide +kernel
theorem dL_poolOf_2 : decode cL_poolOf 2 = .ok (.aload_n 0, 1) := by decide +kernel
theorem dL_poolOf_3 : decode cL_poolOf 3 = .ok (.iload_n 1, 1) := by decide +kernel
theorem dL_poolOf_4 : decode cL_poolOf 4 = .ok (.invokevirtual 106, 3) := by decide +kernel
theorem dL_poolOf_7 : decode cL_poolOf 7 = .ok (.i2l, 1) := by decide +kernel
theorem dL_poolOf_8 : decode cL_poolOf 8 = .ok (.lastore, 1) := by decide +kernel
theorem dL_poolOf_9 : decode cL_poolOf 9 = .ok (.goto 9, 3) := by decide +kernel
theorem dL_poolOf_12 : decode cL_poolOf 12 = .ok (.astore_n 3, 1) := by decide +kernel
theorem dL_poolOf_13 : decode cL_poolOf 13 = .ok (.iconst 1, 1) := by decide +kernel
theorem dL_poolOf_14 : decode cL_poolOf 14 = .ok (.ireturn, 1) := by decide +kernel
theorem dL_poolOf_15 : decode cL_poolOf 15 = .ok (.astore_n 3, 1) := by decide +kernel
theorem dL_poolOf_16 : decode cL_poolOf 16 = .ok (.iconst 2, 1) := by decide +kernel
theorem dL_poolOf_17 : decode cL_poolOf 17 = .ok (.ireturn, 1) := by decide +kernel
theorem dL_poolOf_18 : decode cL_poolOf 18 = .ok (.iconst 0, 1) := by decide +kernel
theorem dL_poolOf_19 : decode cL_poolOf 19 = .ok (.ireturn, 1) := by decide +kernel
theorem dL_distance_0 : decode cL_distance 0 = .ok (.aload_n 2, 1) := by decide +kernel
theorem dL_distance_1 : decode cL_distance 1 = .ok (.iconst 0, 1) := by decide +kernel
theorem dL_distance_2 : decode cL_distance 2 = .ok (.aload_n 0, 1) := by decide +kernel
theorem dL_distance_3 : decode cL_distance 3 = .ok (.iload_n 1, 1) := by decide +kernel
theorem dL_distance_4 : decode cL_distance 4 = .ok (.invokevirtual 109, 3) := by decide +kernel
theorem dL_distance_7 : decode cL_distance 7 = .ok (.i2l, 1) := by decide +kernel
theorem dL_distance_8 : decode cL_distance 8 = .ok (.lastore, 1) := by decide +kernel
theorem dL_distance_9 : decode cL_distance 9 = .ok (.goto 9, 3) := by decide +kernel
theorem dL_distance_12 : decode cL_distance 12 = .ok (.astore_n 3, 1) := by decide +kernel
theorem dL_distance_13 : decode cL_distance 13 = .ok (.iconst 1, 1) := by decide +kernel
theorem dL_distance_14 : decode cL_distance 14 = .ok (.ireturn, 1) := by decide +kernel
theorem dL_distance_15 : decode cL_distance 15 = .ok (.astore_n 3, 1) := by decide +kernel
theorem dL_distance_16 : decode cL_distance 16 = .ok (.iconst 2, 1) := by decide +kernel
theorem dL_distance_17 : decode cL_distance 17 = .ok (.ireturn, 1) := by decide +kernel
theorem dL_distance_18 : decode cL_distance 18 = .ok (.iconst 0, 1) := by decide +kernel
theorem dL_distance_19 : decode cL_distance 19 = .ok (.ireturn, 1) := by decide +kernel
theorem dL_slack_0 : decode cL_slack 0 = .ok (.aload_n 2, 1) := by decide +kernel
theorem dL_slack_1 : decode cL_slack 1 = .ok (.iconst 0, 1) := by decide +kernel
theorem dL_slack_2 : decode cL_slack 2 = .ok (.aload_n 0, 1) := by decide +kernel
theorem dL_slack_3 : decode cL_slack 3 = .ok (.iload_n 1, 1) := by decide +kernel
theorem dL_slack_4 : decode cL_slack 4 = .ok (.invokevirtual 112, 3) := by decide +kernel
theorem dL_slack_7 : decode cL_slack 7 = .ok (.i2l, 1) := by decide +kernel
theorem dL_slack_8 : decode cL_slack 8 = .ok (.lastore, 1) := by decide +kernel
theorem dL_slack_9 : decode cL_slack 9 = .ok (.goto 9, 3) := by decide +kernel
theorem dL_slack_12 : decode cL_slack 12 = .ok (.astore_n 3, 1) := by decide +kernel
theorem dL_slack_13 : decode cL_slack 13 = .ok (.iconst 1, 1) := by decide +kernel
theorem dL_slack_14 : decode cL_slack 14 = .ok (.ireturn, 1) := by decide +kernel
theorem dL_slack_15 : decode cL_slack 15 = .ok (.astore_n 3, 1) := by decide +kernel
theorem dL_slack_16 : decode cL_slack 16 = .ok (.iconst 2, 1) := by decide +kernel
theorem dL_slack_17 : decode cL_slack 17 = .ok (.ireturn, 1) := by decide +kernel
theorem dL_slack_18 : decode cL_slack 18 = .ok (.iconst 0, 1) := by decide +kernel
theorem dL_slack_19 : decode cL_slack 19 = .ok (.ireturn, 1) := by decide +kernel
theorem dL_undo_0 : decode cL_undo 0 = .ok (.aload_n 1, 1) := by decide +kernel
theorem dL_undo_1 : decode cL_undo 1 = .ok (.iconst 0, 1) := by decide +kernel
theorem dL_undo_2 : decode cL_undo 2 = .ok (.aload_n 0, 1) := by decide +kernel
theorem dL_undo_3 : decode cL_undo 3 = .ok (.invokevirtual 115, 3) := by decide +kernel
theorem dL_undo_6 : decode cL_undo 6 = .ok (.i2l, 1) := by decide +kernel
theorem dL_undo_7 : decode cL_undo 7 = .ok (.lastore, 1) := by decide +kernel
theorem dL_undo_8 : decode cL_undo 8 = .ok (.goto 6, 3) := by decide +kernel
theorem dL_undo_11 : decode cL_undo 11 = .ok (.astore_n 2, 1) := by decide +kernel
theorem dL_undo_12 : decode cL_undo 12 = .ok (.iconst 1, 1) := by decide +kernel
theorem dL_undo_13 : decode cL_undo 13 = .ok (.ireturn, 1) := by decide +kernel
theorem dL_undo_14 : decode cL_undo 14 = .ok (.iconst 0, 1) := by decide +kernel
theorem dL_undo_15 : decode cL_undo 15 = .ok (.ireturn, 1) := by decide +kernel
theorem dL_restore_0 : decode cL_restore 0 = .ok (.aload_n 1, 1) := by decide +kernel
theorem dL_restore_1 : decode cL_restore 1 = .ok (.iconst 0, 1) := by decide +kernel
theorem dL_restore_2 : decode cL_restore 2 = .ok (.aload_n 0, 1) := by decide +kernel
theorem dL_restore_3 : decode cL_restore 3 = .ok (.invokevirtual 118, 3) := by decide +kernel
theorem dL_restore_6 : decode cL_restore 6 = .ok (.i2l, 1) := by decide +kernel
theorem dL_restore_7 : decode cL_restore 7 = .ok (.lastore, 1) := by decide +kernel
theorem dL_restore_8 : decode cL_restore 8 = .ok (.goto 6, 3) := by decide +kernel
theorem dL_restore_11 : decode cL_restore 11 = .ok (.astore_n 2, 1) := by decide +kernel
theorem dL_restore_12 : decode cL_restore 12 = .ok (.iconst 1, 1) := by decide +kernel
theorem dL_restore_13 : decode cL_restore 13 = .ok (.ireturn, 1) := by decide +kernel
theorem dL_restore_14 : decode cL_restore 14 = .ok (.iconst 0, 1) := by decide +kernel
theorem dL_restore_15 : decode cL_restore 15 = .ok (.ireturn, 1) := by decide +kernel
theorem dL_law_0 : decode cL_law 0 = .ok (.new 8, 3) := by decide +kernel
theorem dL_law_3 : decode cL_law 3 = .ok (.dup, 1) := by decide +kernel
theorem dL_law_4 : decode cL_law 4 = .ok (.invokespecial 121, 3) := by decide +kernel
theorem dL_law_7 : decode cL_law 7 = .ok (.astore_n 1, 1) := by decide +kernel
theorem dL_law_8 : decode cL_law 8 = .ok (.new 122, 3) := by decide +kernel
theorem dL_law_11 : decode cL_law 11 = .ok (.dup, 1) := by decide +kernel
theorem dL_law_12 : decode cL_law 12 = .ok (.invokespecial 124, 3) := by decide +kernel
theorem dL_law_15 : decode cL_law 15 = .ok (.astore_n 2, 1) := by decide +kernel
theorem dL_law_16 : decode cL_law 16 = .ok (.iconst 1, 1) := by decide +kernel
theorem dL_law_17 : decode cL_law 17 = .ok (.newarray .long, 2) := by decide +kernel
theorem dL_law_19 : decode cL_law 19 = .ok (.astore_n 3, 1) := by decide +kernel
theorem dL_law_20 : decode cL_law 20 = .ok (.iconst 1, 1) := by decide +kernel
theorem dL_law_21 : decode cL_law 21 = .ok (.newarray .double, 2) := by decide +kernel
theorem dL_law_23 : decode cL_law 23 = .ok (.astore 4, 2) := by decide +kernel
theorem dL_law_25 : decode cL_law 25 = .ok (.iconst 0, 1) := by decide +kernel
theorem dL_law_26 : decode cL_law 26 = .ok (.istore 5, 2) := by decide +kernel
theorem dL_law_28 : decode cL_law 28 = .ok (.iload 5, 2) := by decide +kernel
theorem dL_law_30 : decode cL_law 30 = .ok (.aload_n 0, 1) := by decide +kernel
theorem dL_law_31 : decode cL_law 31 = .ok (.arraylength, 1) := by decide +kernel
theorem dL_law_32 : decode cL_law 32 = .ok (.iconst 3, 1) := by decide +kernel
theorem dL_law_33 : decode cL_law 33 = .ok (.isub, 1) := by decide +kernel
theorem dL_law_34 : decode cL_law 34 = .ok (.if_icmp .gt 2039, 3) := by decide +kernel
theorem dL_law_37 : decode cL_law 37 = .ok (.aload_n 0, 1) := by decide +kernel
theorem dL_law_38 : decode cL_law 38 = .ok (.iload 5, 2) := by decide +kernel
theorem dL_law_40 : decode cL_law 40 = .ok (.iaload, 1) := by decide +kernel
theorem dL_law_41 : decode cL_law 41 = .ok (.bipush 63, 2) := by decide +kernel
theorem dL_law_43 : decode cL_law 43 = .ok (.iand, 1) := by decide +kernel
theorem dL_law_44 : decode cL_law 44 = .ok (.tableswitch 2023 0 39 #[176, 189, 202, 260, 316, 360, 416, 484, 552, 620, 688, 701, 714, 770, 826, 894, 950, 963, 1019, 1032, 1088, 1151, 1195, 1251, 1295, 1339, 1383, 1427, 1471, 1536, 1549, 1605, 1673, 1741, 1797, 1853, 1866, 1922, 1966, 1979], 176) := by decide +kernel
theorem dL_law_220 : decode cL_law 220 = .ok (.aload_n 1, 1) := by decide +kernel
theorem dL_law_221 : decode cL_law 221 = .ok (.invokevirtual 125, 3) := by decide +kernel
theorem dL_law_224 : decode cL_law 224 = .ok (.aload_n 2, 1) := by decide +kernel
theorem dL_law_225 : decode cL_law 225 = .ok (.invokevirtual 128, 3) := by decide +kernel
theorem dL_law_228 : decode cL_law 228 = .ok (.if_icmp .eq 1839, 3) := by decide +kernel
theorem dL_law_231 : decode cL_law 231 = .ok (.iconst 0, 1) := by decide +kernel
theorem dL_law_232 : decode cL_law 232 = .ok (.ireturn, 1) := by decide +kernel
theorem dL_law_233 : decode cL_law 233 = .ok (.aload_n 1, 1) := by decide +kernel
theorem dL_law_234 : decode cL_law 234 = .ok (.invokevirtual 129, 3) := by decide +kernel
theorem dL_law_237 : decode cL_law 237 = .ok (.aload_n 2, 1) := by decide +kernel
theorem dL_law_238 : decode cL_law 238 = .ok (.invokevirtual 132, 3) := by decide +kernel
theorem dL_law_241 : decode cL_law 241 = .ok (.if_icmp .eq 1826, 3) := by decide +kernel
theorem dL_law_244 : decode cL_law 244 = .ok (.iconst 0, 1) := by decide +kernel
theorem dL_law_245 : decode cL_law 245 = .ok (.ireturn, 1) := by decide +kernel
theorem dL_law_246 : decode cL_law 246 = .ok (.aload_n 1, 1) := by decide +kernel
theorem dL_law_247 : decode cL_law 247 = .ok (.aload_n 0, 1) := by decide +kernel
theorem dL_law_248 : decode cL_law 248 = .ok (.iload 5, 2) := by decide +kernel
theorem dL_law_250 : decode cL_law 250 = .ok (.iconst 1, 1) := by decide +kernel
theorem dL_law_251 : decode cL_law 251 = .ok (.iadd, 1) := by decide +kernel
theorem dL_law_252 : decode cL_law 252 = .ok (.iaload, 1) := by decide +kernel
theorem dL_law_253 : decode cL_law 253 = .ok (.i2c, 1) := by decide +kernel
theorem dL_law_254 : decode cL_law 254 = .ok (.aload_n 3, 1) := by decide +kernel
theorem dL_law_255 : decode cL_law 255 = .ok (.invokestatic 133, 3) := by decide +kernel
theorem dL_law_258 : decode cL_law 258 = .ok (.istore 6, 2) := by decide +kernel
theorem dL_law_260 : decode cL_law 260 = .ok (.aload_n 2, 1) := by decide +kernel
theorem dL_law_261 : decode cL_law 261 = .ok (.aload_n 0, 1) := by decide +kernel
theorem dL_law_262 : decode cL_law 262 = .ok (.iload 5, 2) := by decide +kernel
theorem dL_law_264 : decode cL_law 264 = .ok (.iconst 1, 1) := by decide +kernel
theorem dL_law_265 : decode cL_law 265 = .ok (.iadd, 1) := by decide +kernel
theorem dL_law_266 : decode cL_law 266 = .ok (.iaload, 1) := by decide +kernel
theorem dL_law_267 : decode cL_law 267 = .ok (.i2c, 1) := by decide +kernel
theorem dL_law_268 : decode cL_law 268 = .ok (.invokevirtual 138, 3) := by decide +kernel
theorem dL_law_271 : decode cL_law 271 = .ok (.istore 7, 2) := by decide +kernel
theorem dL_law_273 : decode cL_law 273 = .ok (.aload_n 2, 1) := by decide +kernel
theorem dL_law_274 : decode cL_law 274 = .ok (.invokevirtual 139, 3) := by decide +kernel
theorem dL_law_277 : decode cL_law 277 = .ok (.iload 6, 2) := by decide +kernel
theorem dL_law_279 : decode cL_law 279 = .ok (.if_icmp .eq 5, 3) := by decide +kernel
theorem dL_law_282 : decode cL_law 282 = .ok (.iconst 0, 1) := by decide +kernel
theorem dL_law_283 : decode cL_law 283 = .ok (.ireturn, 1) := by decide +kernel
theorem dL_law_284 : decode cL_law 284 = .ok (.iload 6, 2) := by decide +kernel
theorem dL_law_286 : decode cL_law 286 = .ok (.ifCond .ne 15, 3) := by decide +kernel
theorem dL_law_289 : decode cL_law 289 = .ok (.aload_n 3, 1) := by decide +kernel
theorem dL_law_290 : decode cL_law 290 = .ok (.iconst 0, 1) := by decide +kernel
theorem dL_law_291 : decode cL_law 291 = .ok (.laload, 1) := by decide +kernel
theorem dL_law_292 : decode cL_law 292 = .ok (.iload 7, 2) := by decide +kernel
theorem dL_law_294 : decode cL_law 294 = .ok (.i2l, 1) := by decide +kernel
theorem dL_law_295 : decode cL_law 295 = .ok (.lcmp, 1) := by decide +kernel
theorem dL_law_296 : decode cL_law 296 = .ok (.ifCond .eq 5, 3) := by decide +kernel
theorem dL_law_299 : decode cL_law 299 = .ok (.iconst 0, 1) := by decide +kernel
theorem dL_law_300 : decode cL_law 300 = .ok (.ireturn, 1) := by decide +kernel
theorem dL_law_301 : decode cL_law 301 = .ok (.goto 1766, 3) := by decide +kernel
theorem dL_law_304 : decode cL_law 304 = .ok (.aload_n 1, 1) := by decide +kernel
theorem dL_law_305 : decode cL_law 305 = .ok (.aload_n 0, 1) := by decide +kernel
theorem dL_law_306 : decode cL_law 306 = .ok (.iload 5, 2) := by decide +kernel
theorem dL_law_308 : decode cL_law 308 = .ok (.iconst 1, 1) := by decide +kernel
theorem dL_law_309 : decode cL_law 309 = .ok (.iadd, 1) := by decide +kernel
theorem dL_law_310 : decode cL_law 310 = .ok (.iaload, 1) := by decide +kernel
theorem dL_law_311 : decode cL_law 311 = .ok (.aload_n 3, 1) := by decide +kernel
theorem dL_law_312 : decode cL_law 312 = .ok (.invokestatic 142, 3) := by decide +kernel
theorem dL_law_315 : decode cL_law 315 = .ok (.istore 6, 2) := by decide +kernel
theorem dL_law_317 : decode cL_law 317 = .ok (.aload_n 2, 1) := by decide +kernel
theorem dL_law_318 : decode cL_law 318 = .ok (.aload_n 0, 1) := by decide +kernel
theorem dL_law_319 : decode cL_law 319 = .ok (.iload 5, 2) := by decide +kernel
theorem dL_law_321 : decode cL_law 321 = .ok (.iconst 1, 1) := by decide +kernel
theorem dL_law_322 : decode cL_law 322 = .ok (.iadd, 1) := by decide +kernel
theorem dL_law_323 : decode cL_law 323 = .ok (.iaload, 1) := by decide +kernel
theorem dL_law_324 : decode cL_law 324 = .ok (.invokevirtual 145, 3) := by decide +kernel
theorem dL_law_327 : decode cL_law 327 = .ok (.istore 7, 2) := by decide +kernel
theorem dL_law_329 : decode cL_law 329 = .ok (.aload_n 2, 1) := by decide +kernel
theorem dL_law_330 : decode cL_law 330 = .ok (.invokevirtual 139, 3) := by decide +kernel
theorem dL_law_333 : decode cL_law 333 = .ok (.iload 6, 2) := by decide +kernel
theorem dL_law_335 : decode cL_law 335 = .ok (.if_icmp .eq 5, 3) := by decide +kernel
theorem dL_law_338 : decode cL_law 338 = .ok (.iconst 0, 1) := by decide +kernel
theorem dL_law_339 : decode cL_law 339 = .ok (.ireturn, 1) := by decide +kernel
theorem dL_law_340 : decode cL_law 340 = .ok (.iload 6, 2) := by decide +kernel
theorem dL_law_342 : decode cL_law 342 = .ok (.ifCond .ne 15, 3) := by decide +kernel
theorem dL_law_345 : decode cL_law 345 = .ok (.aload_n 3, 1) := by decide +kernel
theorem dL_law_346 : decode cL_law 346 = .ok (.iconst 0, 1) := by decide +kernel
theorem dL_law_347 : decode cL_law 347 = .ok (.laload, 1) := by decide +kernel
theorem dL_law_348 : decode cL_law 348 = .ok (.iload 7, 2) := by decide +kernel
theorem dL_law_350 : decode cL_law 350 = .ok (.i2l, 1) := by decide +kernel
theorem dL_law_351 : decode cL_law 351 = .ok (.lcmp, 1) := by decide +kernel
theorem dL_law_352 : decode cL_law 352 = .ok (.ifCond .eq 5, 3) := by decide +kernel
theorem dL_law_355 : decode cL_law 355 = .ok (.iconst 0, 1) := by decide +kernel
theorem dL_law_356 : decode cL_law 356 = .ok (.ireturn, 1) := by decide +kernel
theorem dL_law_357 : decode cL_law 357 = .ok (.goto 1710, 3) := by decide +kernel
theorem dL_law_360 : decode cL_law 360 = .ok (.aload_n 1, 1) := by decide +kernel
theorem dL_law_361 : decode cL_law 361 = .ok (.aload_n 3, 1) := by decide +kernel
theorem dL_law_362 : decode cL_law 362 = .ok (.invokestatic 146, 3) := by decide +kernel
theorem dL_law_365 : decode cL_law 365 = .ok (.istore 6, 2) := by decide +kernel
theorem dL_law_367 : decode cL_law 367 = .ok (.aload_n 2, 1) := by decide +kernel
theorem dL_law_368 : decode cL_law 368 = .ok (.invokevirtual 149, 3) := by decide +kernel
theorem dL_law_371 : decode cL_law 371 = .ok (.istore 7, 2) := by decide +kernel
theorem dL_law_373 : decode cL_law 373 = .ok (.aload_n 2, 1) := by decide +kernel
theorem dL_law_374 : decode cL_law 374 = .ok (.invokevirtual 139, 3) := by decide +kernel
theorem dL_law_377 : decode cL_law 377 = .ok (.iload 6, 2) := by decide +kernel
theorem dL_law_379 : decode cL_law 379 = .ok (.if_icmp .eq 5, 3) := by decide +kernel
theorem dL_law_382 : decode cL_law 382 = .ok (.iconst 0, 1) := by decide +kernel
theorem dL_law_383 : decode cL_law 383 = .ok (.ireturn, 1) := by decide +kernel
theorem dL_law_384 : decode cL_law 384 = .ok (.iload 6, 2) := by decide +kernel
theorem dL_law_386 : decode cL_law 386 = .ok (.ifCond .ne 15, 3) := by decide +kernel
theorem dL_law_389 : decode cL_law 389 = .ok (.aload_n 3, 1) := by decide +kernel
theorem dL_law_390 : decode cL_law 390 = .ok (.iconst 0, 1) := by decide +kernel
theorem dL_law_391 : decode cL_law 391 = .ok (.laload, 1) := by decide +kernel
theorem dL_law_392 : decode cL_law 392 = .ok (.iload 7, 2) := by decide +kernel
theorem dL_law_394 : decode cL_law 394 = .ok (.i2l, 1) := by decide +kernel
theorem dL_law_395 : decode cL_law 395 = .ok (.lcmp, 1) := by decide +kernel
theorem dL_law_396 : decode cL_law 396 = .ok (.ifCond .eq 5, 3) := by decide +kernel
theorem dL_law_399 : decode cL_law 399 = .ok (.iconst 0, 1) := by decide +kernel
theorem dL_law_400 : decode cL_law 400 = .ok (.ireturn, 1) := by decide +kernel
end
section
theorem dL_law_401 : decode cL_law 401 = .ok (.goto 1666, 3) := by decide +kernel
theorem dL_law_404 : decode cL_law 404 = .ok (.aload_n 1, 1) := by decide +kernel
theorem dL_law_405 : decode cL_law 405 = .ok (.aload_n 0, 1) := by decide +kernel
theorem dL_law_406 : decode cL_law 406 = .ok (.iload 5, 2) := by decide +kernel
theorem dL_law_408 : decode cL_law 408 = .ok (.iconst 1, 1) := by decide +kernel
theorem dL_law_409 : decode cL_law 409 = .ok (.iadd, 1) := by decide +kernel
theorem dL_law_410 : decode cL_law 410 = .ok (.iaload, 1) := by decide +kernel
theorem dL_law_411 : decode cL_law 411 = .ok (.aload_n 3, 1) := by decide +kernel
theorem dL_law_412 : decode cL_law 412 = .ok (.invokestatic 150, 3) := by decide +kernel
theorem dL_law_415 : decode cL_law 415 = .ok (.istore 6, 2) := by decide +kernel
theorem dL_law_417 : decode cL_law 417 = .ok (.aload_n 2, 1) := by decide +kernel
theorem dL_law_418 : decode cL_law 418 = .ok (.aload_n 0, 1) := by decide +kernel
theorem dL_law_419 : decode cL_law 419 = .ok (.iload 5, 2) := by decide +kernel
theorem dL_law_421 : decode cL_law 421 = .ok (.iconst 1, 1) := by decide +kernel
theorem dL_law_422 : decode cL_law 422 = .ok (.iadd, 1) := by decide +kernel
theorem dL_law_423 : decode cL_law 423 = .ok (.iaload, 1) := by decide +kernel
theorem dL_law_424 : decode cL_law 424 = .ok (.invokevirtual 152, 3) := by decide +kernel
theorem dL_law_427 : decode cL_law 427 = .ok (.istore 7, 2) := by decide +kernel
theorem dL_law_429 : decode cL_law 429 = .ok (.aload_n 2, 1) := by decide +kernel
theorem dL_law_430 : decode cL_law 430 = .ok (.invokevirtual 139, 3) := by decide +kernel
theorem dL_law_433 : decode cL_law 433 = .ok (.iload 6, 2) := by decide +kernel
theorem dL_law_435 : decode cL_law 435 = .ok (.if_icmp .eq 5, 3) := by decide +kernel
theorem dL_law_438 : decode cL_law 438 = .ok (.iconst 0, 1) := by decide +kernel
theorem dL_law_439 : decode cL_law 439 = .ok (.ireturn, 1) := by decide +kernel
theorem dL_law_440 : decode cL_law 440 = .ok (.iload 6, 2) := by decide +kernel
theorem dL_law_442 : decode cL_law 442 = .ok (.ifCond .ne 15, 3) := by decide +kernel
theorem dL_law_445 : decode cL_law 445 = .ok (.aload_n 3, 1) := by decide +kernel
theorem dL_law_446 : decode cL_law 446 = .ok (.iconst 0, 1) := by decide +kernel
theorem dL_law_447 : decode cL_law 447 = .ok (.laload, 1) := by decide +kernel
theorem dL_law_448 : decode cL_law 448 = .ok (.iload 7, 2) := by decide +kernel
theorem dL_law_450 : decode cL_law 450 = .ok (.i2l, 1) := by decide +kernel
theorem dL_law_451 : decode cL_law 451 = .ok (.lcmp, 1) := by decide +kernel
theorem dL_law_452 : decode cL_law 452 = .ok (.ifCond .eq 5, 3) := by decide +kernel
theorem dL_law_455 : decode cL_law 455 = .ok (.iconst 0, 1) := by decide +kernel
theorem dL_law_456 : decode cL_law 456 = .ok (.ireturn, 1) := by decide +kernel
theorem dL_law_457 : decode cL_law 457 = .ok (.goto 1610, 3) := by decide +kernel
theorem dL_law_460 : decode cL_law 460 = .ok (.aload_n 1, 1) := by decide +kernel
theorem dL_law_461 : decode cL_law 461 = .ok (.aload_n 0, 1) := by decide +kernel
theorem dL_law_462 : decode cL_law 462 = .ok (.iload 5, 2) := by decide +kernel
theorem dL_law_464 : decode cL_law 464 = .ok (.iconst 1, 1) := by decide +kernel
theorem dL_law_465 : decode cL_law 465 = .ok (.iadd, 1) := by decide +kernel
theorem dL_law_466 : decode cL_law 466 = .ok (.iaload, 1) := by decide +kernel
theorem dL_law_467 : decode cL_law 467 = .ok (.aload_n 0, 1) := by decide +kernel
theorem dL_law_468 : decode cL_law 468 = .ok (.iload 5, 2) := by decide +kernel
theorem dL_law_470 : decode cL_law 470 = .ok (.iconst 2, 1) := by decide +kernel
theorem dL_law_471 : decode cL_law 471 = .ok (.iadd, 1) := by decide +kernel
theorem dL_law_472 : decode cL_law 472 = .ok (.iaload, 1) := by decide +kernel
theorem dL_law_473 : decode cL_law 473 = .ok (.aload_n 3, 1) := by decide +kernel
theorem dL_law_474 : decode cL_law 474 = .ok (.invokestatic 153, 3) := by decide +kernel
theorem dL_law_477 : decode cL_law 477 = .ok (.istore 6, 2) := by decide +kernel
theorem dL_law_479 : decode cL_law 479 = .ok (.aload_n 2, 1) := by decide +kernel
theorem dL_law_480 : decode cL_law 480 = .ok (.aload_n 0, 1) := by decide +kernel
theorem dL_law_481 : decode cL_law 481 = .ok (.iload 5, 2) := by decide +kernel
theorem dL_law_483 : decode cL_law 483 = .ok (.iconst 1, 1) := by decide +kernel
theorem dL_law_484 : decode cL_law 484 = .ok (.iadd, 1) := by decide +kernel
theorem dL_law_485 : decode cL_law 485 = .ok (.iaload, 1) := by decide +kernel
theorem dL_law_486 : decode cL_law 486 = .ok (.aload_n 0, 1) := by decide +kernel
theorem dL_law_487 : decode cL_law 487 = .ok (.iload 5, 2) := by decide +kernel
theorem dL_law_489 : decode cL_law 489 = .ok (.iconst 2, 1) := by decide +kernel
theorem dL_law_490 : decode cL_law 490 = .ok (.iadd, 1) := by decide +kernel
theorem dL_law_491 : decode cL_law 491 = .ok (.iaload, 1) := by decide +kernel
theorem dL_law_492 : decode cL_law 492 = .ok (.invokevirtual 156, 3) := by decide +kernel
theorem dL_law_495 : decode cL_law 495 = .ok (.istore 7, 2) := by decide +kernel
theorem dL_law_497 : decode cL_law 497 = .ok (.aload_n 2, 1) := by decide +kernel
theorem dL_law_498 : decode cL_law 498 = .ok (.invokevirtual 139, 3) := by decide +kernel
theorem dL_law_501 : decode cL_law 501 = .ok (.iload 6, 2) := by decide +kernel
theorem dL_law_503 : decode cL_law 503 = .ok (.if_icmp .eq 5, 3) := by decide +kernel
theorem dL_law_506 : decode cL_law 506 = .ok (.iconst 0, 1) := by decide +kernel
theorem dL_law_507 : decode cL_law 507 = .ok (.ireturn, 1) := by decide +kernel
theorem dL_law_508 : decode cL_law 508 = .ok (.iload 6, 2) := by decide +kernel
theorem dL_law_510 : decode cL_law 510 = .ok (.ifCond .ne 15, 3) := by decide +kernel
theorem dL_law_513 : decode cL_law 513 = .ok (.aload_n 3, 1) := by decide +kernel
theorem dL_law_514 : decode cL_law 514 = .ok (.iconst 0, 1) := by decide +kernel
theorem dL_law_515 : decode cL_law 515 = .ok (.laload, 1) := by decide +kernel
theorem dL_law_516 : decode cL_law 516 = .ok (.iload 7, 2) := by decide +kernel
theorem dL_law_518 : decode cL_law 518 = .ok (.i2l, 1) := by decide +kernel
theorem dL_law_519 : decode cL_law 519 = .ok (.lcmp, 1) := by decide +kernel
theorem dL_law_520 : decode cL_law 520 = .ok (.ifCond .eq 5, 3) := by decide +kernel
theorem dL_law_523 : decode cL_law 523 = .ok (.iconst 0, 1) := by decide +kernel
theorem dL_law_524 : decode cL_law 524 = .ok (.ireturn, 1) := by decide +kernel
theorem dL_law_525 : decode cL_law 525 = .ok (.goto 1542, 3) := by decide +kernel
theorem dL_law_528 : decode cL_law 528 = .ok (.aload_n 1, 1) := by decide +kernel
theorem dL_law_529 : decode cL_law 529 = .ok (.aload_n 0, 1) := by decide +kernel
theorem dL_law_530 : decode cL_law 530 = .ok (.iload 5, 2) := by decide +kernel
theorem dL_law_532 : decode cL_law 532 = .ok (.iconst 1, 1) := by decide +kernel
theorem dL_law_533 : decode cL_law 533 = .ok (.iadd, 1) := by decide +kernel
theorem dL_law_534 : decode cL_law 534 = .ok (.iaload, 1) := by decide +kernel
theorem dL_law_535 : decode cL_law 535 = .ok (.aload_n 0, 1) := by decide +kernel
theorem dL_law_536 : decode cL_law 536 = .ok (.iload 5, 2) := by decide +kernel
theorem dL_law_538 : decode cL_law 538 = .ok (.iconst 2, 1) := by decide +kernel
theorem dL_law_539 : decode cL_law 539 = .ok (.iadd, 1) := by decide +kernel
theorem dL_law_540 : decode cL_law 540 = .ok (.iaload, 1) := by decide +kernel
theorem dL_law_541 : decode cL_law 541 = .ok (.aload_n 3, 1) := by decide +kernel
theorem dL_law_542 : decode cL_law 542 = .ok (.invokestatic 157, 3) := by decide +kernel
theorem dL_law_545 : decode cL_law 545 = .ok (.istore 6, 2) := by decide +kernel
theorem dL_law_547 : decode cL_law 547 = .ok (.aload_n 2, 1) := by decide +kernel
theorem dL_law_548 : decode cL_law 548 = .ok (.aload_n 0, 1) := by decide +kernel
theorem dL_law_549 : decode cL_law 549 = .ok (.iload 5, 2) := by decide +kernel
theorem dL_law_551 : decode cL_law 551 = .ok (.iconst 1, 1) := by decide +kernel
theorem dL_law_552 : decode cL_law 552 = .ok (.iadd, 1) := by decide +kernel
theorem dL_law_553 : decode cL_law 553 = .ok (.iaload, 1) := by decide +kernel
theorem dL_law_554 : decode cL_law 554 = .ok (.aload_n 0, 1) := by decide +kernel
theorem dL_law_555 : decode cL_law 555 = .ok (.iload 5, 2) := by decide +kernel
theorem dL_law_557 : decode cL_law 557 = .ok (.iconst 2, 1) := by decide +kernel
theorem dL_law_558 : decode cL_law 558 = .ok (.iadd, 1) := by decide +kernel
theorem dL_law_559 : decode cL_law 559 = .ok (.iaload, 1) := by decide +kernel
theorem dL_law_560 : decode cL_law 560 = .ok (.invokevirtual 159, 3) := by decide +kernel
theorem dL_law_563 : decode cL_law 563 = .ok (.istore 7, 2) := by decide +kernel
theorem dL_law_565 : decode cL_law 565 = .ok (.aload_n 2, 1) := by decide +kernel
theorem dL_law_566 : decode cL_law 566 = .ok (.invokevirtual 139, 3) := by decide +kernel
theorem dL_law_569 : decode cL_law 569 = .ok (.iload 6, 2) := by decide +kernel
theorem dL_law_571 : decode cL_law 571 = .ok (.if_icmp .eq 5, 3) := by decide +kernel
theorem dL_law_574 : decode cL_law 574 = .ok (.iconst 0, 1) := by decide +kernel
theorem dL_law_575 : decode cL_law 575 = .ok (.ireturn, 1) := by decide +kernel
theorem dL_law_576 : decode cL_law 576 = .ok (.iload 6, 2) := by decide +kernel
theorem dL_law_578 : decode cL_law 578 = .ok (.ifCond .ne 15, 3) := by decide +kernel
theorem dL_law_581 : decode cL_law 581 = .ok (.aload_n 3, 1) := by decide +kernel
theorem dL_law_582 : decode cL_law 582 = .ok (.iconst 0, 1) := by decide +kernel
theorem dL_law_583 : decode cL_law 583 = .ok (.laload, 1) := by decide +kernel
theorem dL_law_584 : decode cL_law 584 = .ok (.iload 7, 2) := by decide +kernel
theorem dL_law_586 : decode cL_law 586 = .ok (.i2l, 1) := by decide +kernel
theorem dL_law_587 : decode cL_law 587 = .ok (.lcmp, 1) := by decide +kernel
theorem dL_law_588 : decode cL_law 588 = .ok (.ifCond .eq 5, 3) := by decide +kernel
theorem dL_law_591 : decode cL_law 591 = .ok (.iconst 0, 1) := by decide +kernel
theorem dL_law_592 : decode cL_law 592 = .ok (.ireturn, 1) := by decide +kernel
theorem dL_law_593 : decode cL_law 593 = .ok (.goto 1474, 3) := by decide +kernel
theorem dL_law_596 : decode cL_law 596 = .ok (.aload_n 1, 1) := by decide +kernel
theorem dL_law_597 : decode cL_law 597 = .ok (.aload_n 0, 1) := by decide +kernel
theorem dL_law_598 : decode cL_law 598 = .ok (.iload 5, 2) := by decide +kernel
theorem dL_law_600 : decode cL_law 600 = .ok (.iconst 1, 1) := by decide +kernel
theorem dL_law_601 : decode cL_law 601 = .ok (.iadd, 1) := by decide +kernel
theorem dL_law_602 : decode cL_law 602 = .ok (.iaload, 1) := by decide +kernel
theorem dL_law_603 : decode cL_law 603 = .ok (.aload_n 0, 1) := by decide +kernel
theorem dL_law_604 : decode cL_law 604 = .ok (.iload 5, 2) := by decide +kernel
theorem dL_law_606 : decode cL_law 606 = .ok (.iconst 2, 1) := by decide +kernel
theorem dL_law_607 : decode cL_law 607 = .ok (.iadd, 1) := by decide +kernel
theorem dL_law_608 : decode cL_law 608 = .ok (.iaload, 1) := by decide +kernel
theorem dL_law_609 : decode cL_law 609 = .ok (.aload_n 3, 1) := by decide +kernel
theorem dL_law_610 : decode cL_law 610 = .ok (.invokestatic 160, 3) := by decide +kernel
theorem dL_law_613 : decode cL_law 613 = .ok (.istore 6, 2) := by decide +kernel
theorem dL_law_615 : decode cL_law 615 = .ok (.aload_n 2, 1) := by decide +kernel
theorem dL_law_616 : decode cL_law 616 = .ok (.aload_n 0, 1) := by decide +kernel
theorem dL_law_617 : decode cL_law 617 = .ok (.iload 5, 2) := by decide +kernel
theorem dL_law_619 : decode cL_law 619 = .ok (.iconst 1, 1) := by decide +kernel
theorem dL_law_620 : decode cL_law 620 = .ok (.iadd, 1) := by decide +kernel
theorem dL_law_621 : decode cL_law 621 = .ok (.iaload, 1) := by decide +kernel
theorem dL_law_622 : decode cL_law 622 = .ok (.aload_n 0, 1) := by decide +kernel
theorem dL_law_623 : decode cL_law 623 = .ok (.iload 5, 2) := by decide +kernel
theorem dL_law_625 : decode cL_law 625 = .ok (.iconst 2, 1) := by decide +kernel
theorem dL_law_626 : decode cL_law 626 = .ok (.iadd, 1) := by decide +kernel
theorem dL_law_627 : decode cL_law 627 = .ok (.iaload, 1) := by decide +kernel
theorem dL_law_628 : decode cL_law 628 = .ok (.invokevirtual 162, 3) := by decide +kernel
theorem dL_law_631 : decode cL_law 631 = .ok (.istore 7, 2) := by decide +kernel
theorem dL_law_633 : decode cL_law 633 = .ok (.aload_n 2, 1) := by decide +kernel
theorem dL_law_634 : decode cL_law 634 = .ok (.invokevirtual 139, 3) := by decide +kernel
theorem dL_law_637 : decode cL_law 637 = .ok (.iload 6, 2) := by decide +kernel
theorem dL_law_639 : decode cL_law 639 = .ok (.if_icmp .eq 5, 3) := by decide +kernel
theorem dL_law_642 : decode cL_law 642 = .ok (.iconst 0, 1) := by decide +kernel
theorem dL_law_643 : decode cL_law 643 = .ok (.ireturn, 1) := by decide +kernel
theorem dL_law_644 : decode cL_law 644 = .ok (.iload 6, 2) := by decide +kernel
theorem dL_law_646 : decode cL_law 646 = .ok (.ifCond .ne 15, 3) := by decide +kernel
theorem dL_law_649 : decode cL_law 649 = .ok (.aload_n 3, 1) := by decide +kernel
theorem dL_law_650 : decode cL_law 650 = .ok (.iconst 0, 1) := by decide +kernel
theorem dL_law_651 : decode cL_law 651 = .ok (.laload, 1) := by decide +kernel
theorem dL_law_652 : decode cL_law 652 = .ok (.iload 7, 2) := by decide +kernel
theorem dL_law_654 : decode cL_law 654 = .ok (.i2l, 1) := by decide +kernel
theorem dL_law_655 : decode cL_law 655 = .ok (.lcmp, 1) := by decide +kernel
theorem dL_law_656 : decode cL_law 656 = .ok (.ifCond .eq 5, 3) := by decide +kernel
theorem dL_law_659 : decode cL_law 659 = .ok (.iconst 0, 1) := by decide +kernel
theorem dL_law_660 : decode cL_law 660 = .ok (.ireturn, 1) := by decide +kernel
theorem dL_law_661 : decode cL_law 661 = .ok (.goto 1406, 3) := by decide +kernel
theorem dL_law_664 : decode cL_law 664 = .ok (.aload_n 1, 1) := by decide +kernel
theorem dL_law_665 : decode cL_law 665 = .ok (.aload_n 0, 1) := by decide +kernel
theorem dL_law_666 : decode cL_law 666 = .ok (.iload 5, 2) := by decide +kernel
theorem dL_law_668 : decode cL_law 668 = .ok (.iconst 1, 1) := by decide +kernel
theorem dL_law_669 : decode cL_law 669 = .ok (.iadd, 1) := by decide +kernel
theorem dL_law_670 : decode cL_law 670 = .ok (.iaload, 1) := by decide +kernel
theorem dL_law_671 : decode cL_law 671 = .ok (.aload_n 0, 1) := by decide +kernel
theorem dL_law_672 : decode cL_law 672 = .ok (.iload 5, 2) := by decide +kernel
theorem dL_law_674 : decode cL_law 674 = .ok (.iconst 2, 1) := by decide +kernel
theorem dL_law_675 : decode cL_law 675 = .ok (.iadd, 1) := by decide +kernel
theorem dL_law_676 : decode cL_law 676 = .ok (.iaload, 1) := by decide +kernel
theorem dL_law_677 : decode cL_law 677 = .ok (.aload_n 3, 1) := by decide +kernel
theorem dL_law_678 : decode cL_law 678 = .ok (.invokestatic 163, 3) := by decide +kernel
theorem dL_law_681 : decode cL_law 681 = .ok (.istore 6, 2) := by decide +kernel
theorem dL_law_683 : decode cL_law 683 = .ok (.aload_n 2, 1) := by decide +kernel
theorem dL_law_684 : decode cL_law 684 = .ok (.aload_n 0, 1) := by decide +kernel
theorem dL_law_685 : decode cL_law 685 = .ok (.iload 5, 2) := by decide +kernel
theorem dL_law_687 : decode cL_law 687 = .ok (.iconst 1, 1) := by decide +kernel
theorem dL_law_688 : decode cL_law 688 = .ok (.iadd, 1) := by decide +kernel
theorem dL_law_689 : decode cL_law 689 = .ok (.iaload, 1) := by decide +kernel
theorem dL_law_690 : decode cL_law 690 = .ok (.aload_n 0, 1) := by decide +kernel
theorem dL_law_691 : decode cL_law 691 = .ok (.iload 5, 2) := by decide +kernel
theorem dL_law_693 : decode cL_law 693 = .ok (.iconst 2, 1) := by decide +kernel
theorem dL_law_694 : decode cL_law 694 = .ok (.iadd, 1) := by decide +kernel
theorem dL_law_695 : decode cL_law 695 = .ok (.iaload, 1) := by decide +kernel
theorem dL_law_696 : decode cL_law 696 = .ok (.invokevirtual 165, 3) := by decide +kernel
theorem dL_law_699 : decode cL_law 699 = .ok (.istore 7, 2) := by decide +kernel
theorem dL_law_701 : decode cL_law 701 = .ok (.aload_n 2, 1) := by decide +kernel
theorem dL_law_702 : decode cL_law 702 = .ok (.invokevirtual 139, 3) := by decide +kernel
theorem dL_law_705 : decode cL_law 705 = .ok (.iload 6, 2) := by decide +kernel
theorem dL_law_707 : decode cL_law 707 = .ok (.if_icmp .eq 5, 3) := by decide +kernel
theorem dL_law_710 : decode cL_law 710 = .ok (.iconst 0, 1) := by decide +kernel
theorem dL_law_711 : decode cL_law 711 = .ok (.ireturn, 1) := by decide +kernel
theorem dL_law_712 : decode cL_law 712 = .ok (.iload 6, 2) := by decide +kernel
theorem dL_law_714 : decode cL_law 714 = .ok (.ifCond .ne 15, 3) := by decide +kernel
theorem dL_law_717 : decode cL_law 717 = .ok (.aload_n 3, 1) := by decide +kernel
theorem dL_law_718 : decode cL_law 718 = .ok (.iconst 0, 1) := by decide +kernel
theorem dL_law_719 : decode cL_law 719 = .ok (.laload, 1) := by decide +kernel
theorem dL_law_720 : decode cL_law 720 = .ok (.iload 7, 2) := by decide +kernel
theorem dL_law_722 : decode cL_law 722 = .ok (.i2l, 1) := by decide +kernel
theorem dL_law_723 : decode cL_law 723 = .ok (.lcmp, 1) := by decide +kernel
theorem dL_law_724 : decode cL_law 724 = .ok (.ifCond .eq 5, 3) := by decide +kernel
theorem dL_law_727 : decode cL_law 727 = .ok (.iconst 0, 1) := by decide +kernel
theorem dL_law_728 : decode cL_law 728 = .ok (.ireturn, 1) := by decide +kernel
theorem dL_law_729 : decode cL_law 729 = .ok (.goto 1338, 3) := by decide +kernel
theorem dL_law_732 : decode cL_law 732 = .ok (.aload_n 1, 1) := by decide +kernel
theorem dL_law_733 : decode cL_law 733 = .ok (.invokevirtual 166, 3) := by decide +kernel
theorem dL_law_736 : decode cL_law 736 = .ok (.aload_n 2, 1) := by decide +kernel
theorem dL_law_737 : decode cL_law 737 = .ok (.invokevirtual 169, 3) := by decide +kernel
theorem dL_law_740 : decode cL_law 740 = .ok (.if_icmp .eq 1327, 3) := by decide +kernel
theorem dL_law_743 : decode cL_law 743 = .ok (.iconst 0, 1) := by decide +kernel
theorem dL_law_744 : decode cL_law 744 = .ok (.ireturn, 1) := by decide +kernel
theorem dL_law_745 : decode cL_law 745 = .ok (.aload_n 1, 1) := by decide +kernel
theorem dL_law_746 : decode cL_law 746 = .ok (.invokevirtual 170, 3) := by decide +kernel
theorem dL_law_749 : decode cL_law 749 = .ok (.aload_n 2, 1) := by decide +kernel
theorem dL_law_750 : decode cL_law 750 = .ok (.invokevirtual 173, 3) := by decide +kernel
theorem dL_law_753 : decode cL_law 753 = .ok (.if_icmp .eq 1314, 3) := by decide +kernel
theorem dL_law_756 : decode cL_law 756 = .ok (.iconst 0, 1) := by decide +kernel
theorem dL_law_757 : decode cL_law 757 = .ok (.ireturn, 1) := by decide +kernel
theorem dL_law_758 : decode cL_law 758 = .ok (.aload_n 1, 1) := by decide +kernel
theorem dL_law_759 : decode cL_law 759 = .ok (.aload_n 0, 1) := by decide +kernel
theorem dL_law_760 : decode cL_law 760 = .ok (.iload 5, 2) := by decide +kernel
theorem dL_law_762 : decode cL_law 762 = .ok (.iconst 1, 1) := by decide +kernel
theorem dL_law_763 : decode cL_law 763 = .ok (.iadd, 1) := by decide +kernel
theorem dL_law_764 : decode cL_law 764 = .ok (.iaload, 1) := by decide +kernel
theorem dL_law_765 : decode cL_law 765 = .ok (.aload_n 3, 1) := by decide +kernel
theorem dL_law_766 : decode cL_law 766 = .ok (.invokestatic 174, 3) := by decide +kernel
theorem dL_law_769 : decode cL_law 769 = .ok (.istore 6, 2) := by decide +kernel
theorem dL_law_771 : decode cL_law 771 = .ok (.aload_n 2, 1) := by decide +kernel
theorem dL_law_772 : decode cL_law 772 = .ok (.aload_n 0, 1) := by decide +kernel
theorem dL_law_773 : decode cL_law 773 = .ok (.iload 5, 2) := by decide +kernel
theorem dL_law_775 : decode cL_law 775 = .ok (.iconst 1, 1) := by decide +kernel
theorem dL_law_776 : decode cL_law 776 = .ok (.iadd, 1) := by decide +kernel
theorem dL_law_777 : decode cL_law 777 = .ok (.iaload, 1) := by decide +kernel
theorem dL_law_778 : decode cL_law 778 = .ok (.invokevirtual 176, 3) := by decide +kernel
theorem dL_law_781 : decode cL_law 781 = .ok (.istore 7, 2) := by decide +kernel
theorem dL_law_783 : decode cL_law 783 = .ok (.aload_n 2, 1) := by decide +kernel
theorem dL_law_784 : decode cL_law 784 = .ok (.invokevirtual 139, 3) := by decide +kernel
theorem dL_law_787 : decode cL_law 787 = .ok (.iload 6, 2) := by decide +kernel
theorem dL_law_789 : decode cL_law 789 = .ok (.if_icmp .eq 5, 3) := by decide +kernel
theorem dL_law_792 : decode cL_law 792 = .ok (.iconst 0, 1) := by decide +kernel
theorem dL_law_793 : decode cL_law 793 = .ok (.ireturn, 1) := by decide +kernel
theorem dL_law_794 : decode cL_law 794 = .ok (.iload 6, 2) := by decide +kernel
theorem dL_law_796 : decode cL_law 796 = .ok (.ifCond .ne 15, 3) := by decide +kernel
theorem dL_law_799 : decode cL_law 799 = .ok (.aload_n 3, 1) := by decide +kernel
theorem dL_law_800 : decode cL_law 800 = .ok (.iconst 0, 1) := by decide +kernel
theorem dL_law_801 : decode cL_law 801 = .ok (.laload, 1) := by decide +kernel
theorem dL_law_802 : decode cL_law 802 = .ok (.iload 7, 2) := by decide +kernel
theorem dL_law_804 : decode cL_law 804 = .ok (.i2l, 1) := by decide +kernel
theorem dL_law_805 : decode cL_law 805 = .ok (.lcmp, 1) := by decide +kernel
theorem dL_law_806 : decode cL_law 806 = .ok (.ifCond .eq 5, 3) := by decide +kernel
theorem dL_law_809 : decode cL_law 809 = .ok (.iconst 0, 1) := by decide +kernel
theorem dL_law_810 : decode cL_law 810 = .ok (.ireturn, 1) := by decide +kernel
theorem dL_law_811 : decode cL_law 811 = .ok (.goto 1256, 3) := by decide +kernel
theorem dL_law_814 : decode cL_law 814 = .ok (.aload_n 1, 1) := by decide +kernel
theorem dL_law_815 : decode cL_law 815 = .ok (.aload_n 0, 1) := by decide +kernel
theorem dL_law_816 : decode cL_law 816 = .ok (.iload 5, 2) := by decide +kernel
theorem dL_law_818 : decode cL_law 818 = .ok (.iconst 1, 1) := by decide +kernel
theorem dL_law_819 : decode cL_law 819 = .ok (.iadd, 1) := by decide +kernel
theorem dL_law_820 : decode cL_law 820 = .ok (.iaload, 1) := by decide +kernel
theorem dL_law_821 : decode cL_law 821 = .ok (.aload_n 3, 1) := by decide +kernel
theorem dL_law_822 : decode cL_law 822 = .ok (.invokestatic 177, 3) := by decide +kernel
theorem dL_law_825 : decode cL_law 825 = .ok (.istore 6, 2) := by decide +kernel
theorem dL_law_827 : decode cL_law 827 = .ok (.aload_n 2, 1) := by decide +kernel
theorem dL_law_828 : decode cL_law 828 = .ok (.aload_n 0, 1) := by decide +kernel
theorem dL_law_829 : decode cL_law 829 = .ok (.iload 5, 2) := by decide +kernel
theorem dL_law_831 : decode cL_law 831 = .ok (.iconst 1, 1) := by decide +kernel
theorem dL_law_832 : decode cL_law 832 = .ok (.iadd, 1) := by decide +kernel
theorem dL_law_833 : decode cL_law 833 = .ok (.iaload, 1) := by decide +kernel
theorem dL_law_834 : decode cL_law 834 = .ok (.invokevirtual 179, 3) := by decide +kernel
theorem dL_law_837 : decode cL_law 837 = .ok (.istore 7, 2) := by decide +kernel
theorem dL_law_839 : decode cL_law 839 = .ok (.aload_n 2, 1) := by decide +kernel
theorem dL_law_840 : decode cL_law 840 = .ok (.invokevirtual 139, 3) := by decide +kernel
theorem dL_law_843 : decode cL_law 843 = .ok (.iload 6, 2) := by decide +kernel
theorem dL_law_845 : decode cL_law 845 = .ok (.if_icmp .eq 5, 3) := by decide +kernel
theorem dL_law_848 : decode cL_law 848 = .ok (.iconst 0, 1) := by decide +kernel
theorem dL_law_849 : decode cL_law 849 = .ok (.ireturn, 1) := by decide +kernel
theorem dL_law_850 : decode cL_law 850 = .ok (.iload 6, 2) := by decide +kernel
theorem dL_law_852 : decode cL_law 852 = .ok (.ifCond .ne 15, 3) := by decide +kernel
theorem dL_law_855 : decode cL_law 855 = .ok (.aload_n 3, 1) := by decide +kernel
theorem dL_law_856 : decode cL_law 856 = .ok (.iconst 0, 1) := by decide +kernel
theorem dL_law_857 : decode cL_law 857 = .ok (.laload, 1) := by decide +kernel
theorem dL_law_858 : decode cL_law 858 = .ok (.iload 7, 2) := by decide +kernel
theorem dL_law_860 : decode cL_law 860 = .ok (.i2l, 1) := by decide +kernel
theorem dL_law_861 : decode cL_law 861 = .ok (.lcmp, 1) := by decide +kernel
theorem dL_law_862 : decode cL_law 862 = .ok (.ifCond .eq 5, 3) := by decide +kernel
theorem dL_law_865 : decode cL_law 865 = .ok (.iconst 0, 1) := by decide +kernel
theorem dL_law_866 : decode cL_law 866 = .ok (.ireturn, 1) := by decide +kernel
theorem dL_law_867 : decode cL_law 867 = .ok (.goto 1200, 3) := by decide +kernel
theorem dL_law_870 : decode cL_law 870 = .ok (.aload_n 1, 1) := by decide +kernel
theorem dL_law_871 : decode cL_law 871 = .ok (.aload_n 0, 1) := by decide +kernel
theorem dL_law_872 : decode cL_law 872 = .ok (.iload 5, 2) := by decide +kernel
theorem dL_law_874 : decode cL_law 874 = .ok (.iconst 1, 1) := by decide +kernel
theorem dL_law_875 : decode cL_law 875 = .ok (.iadd, 1) := by decide +kernel
theorem dL_law_876 : decode cL_law 876 = .ok (.iaload, 1) := by decide +kernel
theorem dL_law_877 : decode cL_law 877 = .ok (.aload_n 0, 1) := by decide +kernel
theorem dL_law_878 : decode cL_law 878 = .ok (.iload 5, 2) := by decide +kernel
theorem dL_law_880 : decode cL_law 880 = .ok (.iconst 2, 1) := by decide +kernel
theorem dL_law_881 : decode cL_law 881 = .ok (.iadd, 1) := by decide +kernel
theorem dL_law_882 : decode cL_law 882 = .ok (.iaload, 1) := by decide +kernel
theorem dL_law_883 : decode cL_law 883 = .ok (.aload_n 3, 1) := by decide +kernel
theorem dL_law_884 : decode cL_law 884 = .ok (.invokestatic 180, 3) := by decide +kernel
theorem dL_law_887 : decode cL_law 887 = .ok (.istore 6, 2) := by decide +kernel
theorem dL_law_889 : decode cL_law 889 = .ok (.aload_n 2, 1) := by decide +kernel
theorem dL_law_890 : decode cL_law 890 = .ok (.aload_n 0, 1) := by decide +kernel
theorem dL_law_891 : decode cL_law 891 = .ok (.iload 5, 2) := by decide +kernel
theorem dL_law_893 : decode cL_law 893 = .ok (.iconst 1, 1) := by decide +kernel
theorem dL_law_894 : decode cL_law 894 = .ok (.iadd, 1) := by decide +kernel
theorem dL_law_895 : decode cL_law 895 = .ok (.iaload, 1) := by decide +kernel
theorem dL_law_896 : decode cL_law 896 = .ok (.aload_n 0, 1) := by decide +kernel
theorem dL_law_897 : decode cL_law 897 = .ok (.iload 5, 2) := by decide +kernel
theorem dL_law_899 : decode cL_law 899 = .ok (.iconst 2, 1) := by decide +kernel
theorem dL_law_900 : decode cL_law 900 = .ok (.iadd, 1) := by decide +kernel
theorem dL_law_901 : decode cL_law 901 = .ok (.iaload, 1) := by decide +kernel
theorem dL_law_902 : decode cL_law 902 = .ok (.invokevirtual 182, 3) := by decide +kernel
theorem dL_law_905 : decode cL_law 905 = .ok (.istore 7, 2) := by decide +kernel
theorem dL_law_907 : decode cL_law 907 = .ok (.aload_n 2, 1) := by decide +kernel
theorem dL_law_908 : decode cL_law 908 = .ok (.invokevirtual 139, 3) := by decide +kernel
theorem dL_law_911 : decode cL_law 911 = .ok (.iload 6, 2) := by decide +kernel
theorem dL_law_913 : decode cL_law 913 = .ok (.if_icmp .eq 5, 3) := by decide +kernel
theorem dL_law_916 : decode cL_law 916 = .ok (.iconst 0, 1) := by decide +kernel
theorem dL_law_917 : decode cL_law 917 = .ok (.ireturn, 1) := by decide +kernel
theorem dL_law_918 : decode cL_law 918 = .ok (.iload 6, 2) := by decide +kernel
theorem dL_law_920 : decode cL_law 920 = .ok (.ifCond .ne 15, 3) := by decide +kernel
theorem dL_law_923 : decode cL_law 923 = .ok (.aload_n 3, 1) := by decide +kernel
theorem dL_law_924 : decode cL_law 924 = .ok (.iconst 0, 1) := by decide +kernel
theorem dL_law_925 : decode cL_law 925 = .ok (.laload, 1) := by decide +kernel
theorem dL_law_926 : decode cL_law 926 = .ok (.iload 7, 2) := by decide +kernel
theorem dL_law_928 : decode cL_law 928 = .ok (.i2l, 1) := by decide +kernel
theorem dL_law_929 : decode cL_law 929 = .ok (.lcmp, 1) := by decide +kernel
theorem dL_law_930 : decode cL_law 930 = .ok (.ifCond .eq 5, 3) := by decide +kernel
theorem dL_law_933 : decode cL_law 933 = .ok (.iconst 0, 1) := by decide +kernel
theorem dL_law_934 : decode cL_law 934 = .ok (.ireturn, 1) := by decide +kernel
theorem dL_law_935 : decode cL_law 935 = .ok (.goto 1132, 3) := by decide +kernel
theorem dL_law_938 : decode cL_law 938 = .ok (.aload_n 1, 1) := by decide +kernel
theorem dL_law_939 : decode cL_law 939 = .ok (.aload_n 0, 1) := by decide +kernel
theorem dL_law_940 : decode cL_law 940 = .ok (.iload 5, 2) := by decide +kernel
theorem dL_law_942 : decode cL_law 942 = .ok (.iconst 1, 1) := by decide +kernel
theorem dL_law_943 : decode cL_law 943 = .ok (.iadd, 1) := by decide +kernel
theorem dL_law_944 : decode cL_law 944 = .ok (.iaload, 1) := by decide +kernel
theorem dL_law_945 : decode cL_law 945 = .ok (.aload_n 3, 1) := by decide +kernel
theorem dL_law_946 : decode cL_law 946 = .ok (.invokestatic 183, 3) := by decide +kernel
theorem dL_law_949 : decode cL_law 949 = .ok (.istore 6, 2) := by decide +kernel
theorem dL_law_951 : decode cL_law 951 = .ok (.aload_n 2, 1) := by decide +kernel
theorem dL_law_952 : decode cL_law 952 = .ok (.aload_n 0, 1) := by decide +kernel
theorem dL_law_953 : decode cL_law 953 = .ok (.iload 5, 2) := by decide +kernel
theorem dL_law_955 : decode cL_law 955 = .ok (.iconst 1, 1) := by decide +kernel
theorem dL_law_956 : decode cL_law 956 = .ok (.iadd, 1) := by decide +kernel
theorem dL_law_957 : decode cL_law 957 = .ok (.iaload, 1) := by decide +kernel
theorem dL_law_958 : decode cL_law 958 = .ok (.invokevirtual 185, 3) := by decide +kernel
theorem dL_law_961 : decode cL_law 961 = .ok (.istore 7, 2) := by decide +kernel
theorem dL_law_963 : decode cL_law 963 = .ok (.aload_n 2, 1) := by decide +kernel
theorem dL_law_964 : decode cL_law 964 = .ok (.invokevirtual 139, 3) := by decide +kernel
theorem dL_law_967 : decode cL_law 967 = .ok (.iload 6, 2) := by decide +kernel
theorem dL_law_969 : decode cL_law 969 = .ok (.if_icmp .eq 5, 3) := by decide +kernel
theorem dL_law_972 : decode cL_law 972 = .ok (.iconst 0, 1) := by decide +kernel
theorem dL_law_973 : decode cL_law 973 = .ok (.ireturn, 1) := by decide +kernel
theorem dL_law_974 : decode cL_law 974 = .ok (.iload 6, 2) := by decide +kernel
theorem dL_law_976 : decode cL_law 976 = .ok (.ifCond .ne 15, 3) := by decide +kernel
theorem dL_law_979 : decode cL_law 979 = .ok (.aload_n 3, 1) := by decide +kernel
theorem dL_law_980 : decode cL_law 980 = .ok (.iconst 0, 1) := by decide +kernel
theorem dL_law_981 : decode cL_law 981 = .ok (.laload, 1) := by decide +kernel
theorem dL_law_982 : decode cL_law 982 = .ok (.iload 7, 2) := by decide +kernel
theorem dL_law_984 : decode cL_law 984 = .ok (.i2l, 1) := by decide +kernel
theorem dL_law_985 : decode cL_law 985 = .ok (.lcmp, 1) := by decide +kernel
theorem dL_law_986 : decode cL_law 986 = .ok (.ifCond .eq 5, 3) := by decide +kernel
theorem dL_law_989 : decode cL_law 989 = .ok (.iconst 0, 1) := by decide +kernel
theorem dL_law_990 : decode cL_law 990 = .ok (.ireturn, 1) := by decide +kernel
theorem dL_law_991 : decode cL_law 991 = .ok (.goto 1076, 3) := by decide +kernel
theorem dL_law_994 : decode cL_law 994 = .ok (.aload_n 1, 1) := by decide +kernel
theorem dL_law_995 : decode cL_law 995 = .ok (.invokevirtual 186, 3) := by decide +kernel
theorem dL_law_998 : decode cL_law 998 = .ok (.aload_n 2, 1) := by decide +kernel
theorem dL_law_999 : decode cL_law 999 = .ok (.invokevirtual 189, 3) := by decide +kernel
theorem dL_law_1002 : decode cL_law 1002 = .ok (.if_icmp .eq 1065, 3) := by decide +kernel
theorem dL_law_1005 : decode cL_law 1005 = .ok (.iconst 0, 1) := by decide +kernel
theorem dL_law_1006 : decode cL_law 1006 = .ok (.ireturn, 1) := by decide +kernel
theorem dL_law_1007 : decode cL_law 1007 = .ok (.aload_n 1, 1) := by decide +kernel
theorem dL_law_1008 : decode cL_law 1008 = .ok (.aload_n 0, 1) := by decide +kernel
theorem dL_law_1009 : decode cL_law 1009 = .ok (.iload 5, 2) := by decide +kernel
theorem dL_law_1011 : decode cL_law 1011 = .ok (.iconst 1, 1) := by decide +kernel
theorem dL_law_1012 : decode cL_law 1012 = .ok (.iadd, 1) := by decide +kernel
theorem dL_law_1013 : decode cL_law 1013 = .ok (.iaload, 1) := by decide +kernel
theorem dL_law_1014 : decode cL_law 1014 = .ok (.aload_n 3, 1) := by decide +kernel
theorem dL_law_1015 : decode cL_law 1015 = .ok (.invokestatic 190, 3) := by decide +kernel
theorem dL_law_1018 : decode cL_law 1018 = .ok (.istore 6, 2) := by decide +kernel
theorem dL_law_1020 : decode cL_law 1020 = .ok (.aload_n 2, 1) := by decide +kernel
theorem dL_law_1021 : decode cL_law 1021 = .ok (.aload_n 0, 1) := by decide +kernel
theorem dL_law_1022 : decode cL_law 1022 = .ok (.iload 5, 2) := by decide +kernel
theorem dL_law_1024 : decode cL_law 1024 = .ok (.iconst 1, 1) := by decide +kernel
theorem dL_law_1025 : decode cL_law 1025 = .ok (.iadd, 1) := by decide +kernel
theorem dL_law_1026 : decode cL_law 1026 = .ok (.iaload, 1) := by decide +kernel
theorem dL_law_1027 : decode cL_law 1027 = .ok (.invokevirtual 192, 3) := by decide +kernel
theorem dL_law_1030 : decode cL_law 1030 = .ok (.istore 7, 2) := by decide +kernel
theorem dL_law_1032 : decode cL_law 1032 = .ok (.aload_n 2, 1) := by decide +kernel
theorem dL_law_1033 : decode cL_law 1033 = .ok (.invokevirtual 139, 3) := by decide +kernel
theorem dL_law_1036 : decode cL_law 1036 = .ok (.iload 6, 2) := by decide +kernel
theorem dL_law_1038 : decode cL_law 1038 = .ok (.if_icmp .eq 5, 3) := by decide +kernel
theorem dL_law_1041 : decode cL_law 1041 = .ok (.iconst 0, 1) := by decide +kernel
theorem dL_law_1042 : decode cL_law 1042 = .ok (.ireturn, 1) := by decide +kernel
theorem dL_law_1043 : decode cL_law 1043 = .ok (.iload 6, 2) := by decide +kernel
theorem dL_law_1045 : decode cL_law 1045 = .ok (.ifCond .ne 15, 3) := by decide +kernel
theorem dL_law_1048 : decode cL_law 1048 = .ok (.aload_n 3, 1) := by decide +kernel
theorem dL_law_1049 : decode cL_law 1049 = .ok (.iconst 0, 1) := by decide +kernel
theorem dL_law_1050 : decode cL_law 1050 = .ok (.laload, 1) := by decide +kernel
theorem dL_law_1051 : decode cL_law 1051 = .ok (.iload 7, 2) := by decide +kernel
theorem dL_law_1053 : decode cL_law 1053 = .ok (.i2l, 1) := by decide +kernel
theorem dL_law_1054 : decode cL_law 1054 = .ok (.lcmp, 1) := by decide +kernel
theorem dL_law_1055 : decode cL_law 1055 = .ok (.ifCond .eq 5, 3) := by decide +kernel
theorem dL_law_1058 : decode cL_law 1058 = .ok (.iconst 0, 1) := by decide +kernel
theorem dL_law_1059 : decode cL_law 1059 = .ok (.ireturn, 1) := by decide +kernel
theorem dL_law_1060 : decode cL_law 1060 = .ok (.goto 1007, 3) := by decide +kernel
theorem dL_law_1063 : decode cL_law 1063 = .ok (.aload_n 1, 1) := by decide +kernel
theorem dL_law_1064 : decode cL_law 1064 = .ok (.invokevirtual 193, 3) := by decide +kernel
theorem dL_law_1067 : decode cL_law 1067 = .ok (.aload_n 2, 1) := by decide +kernel
theorem dL_law_1068 : decode cL_law 1068 = .ok (.invokevirtual 196, 3) := by decide +kernel
theorem dL_law_1071 : decode cL_law 1071 = .ok (.if_icmp .eq 996, 3) := by decide +kernel
theorem dL_law_1074 : decode cL_law 1074 = .ok (.iconst 0, 1) := by decide +kernel
theorem dL_law_1075 : decode cL_law 1075 = .ok (.ireturn, 1) := by decide +kernel
theorem dL_law_1076 : decode cL_law 1076 = .ok (.aload_n 1, 1) := by decide +kernel
theorem dL_law_1077 : decode cL_law 1077 = .ok (.aload_n 0, 1) := by decide +kernel
theorem dL_law_1078 : decode cL_law 1078 = .ok (.iload 5, 2) := by decide +kernel
theorem dL_law_1080 : decode cL_law 1080 = .ok (.iconst 1, 1) := by decide +kernel
theorem dL_law_1081 : decode cL_law 1081 = .ok (.iadd, 1) := by decide +kernel
theorem dL_law_1082 : decode cL_law 1082 = .ok (.iaload, 1) := by decide +kernel
theorem dL_law_1083 : decode cL_law 1083 = .ok (.aload_n 3, 1) := by decide +kernel
theorem dL_law_1084 : decode cL_law 1084 = .ok (.invokestatic 197, 3) := by decide +kernel
theorem dL_law_1087 : decode cL_law 1087 = .ok (.istore 6, 2) := by decide +kernel
theorem dL_law_1089 : decode cL_law 1089 = .ok (.aload_n 2, 1) := by decide +kernel
theorem dL_law_1090 : decode cL_law 1090 = .ok (.aload_n 0, 1) := by decide +kernel
theorem dL_law_1091 : decode cL_law 1091 = .ok (.iload 5, 2) := by decide +kernel
theorem dL_law_1093 : decode cL_law 1093 = .ok (.iconst 1, 1) := by decide +kernel
theorem dL_law_1094 : decode cL_law 1094 = .ok (.iadd, 1) := by decide +kernel
theorem dL_law_1095 : decode cL_law 1095 = .ok (.iaload, 1) := by decide +kernel
theorem dL_law_1096 : decode cL_law 1096 = .ok (.invokevirtual 199, 3) := by decide +kernel
theorem dL_law_1099 : decode cL_law 1099 = .ok (.istore 7, 2) := by decide +kernel
theorem dL_law_1101 : decode cL_law 1101 = .ok (.aload_n 2, 1) := by decide +kernel
theorem dL_law_1102 : decode cL_law 1102 = .ok (.invokevirtual 139, 3) := by decide +kernel
theorem dL_law_1105 : decode cL_law 1105 = .ok (.iload 6, 2) := by decide +kernel
theorem dL_law_1107 : decode cL_law 1107 = .ok (.if_icmp .eq 5, 3) := by decide +kernel
theorem dL_law_1110 : decode cL_law 1110 = .ok (.iconst 0, 1) := by decide +kernel
theorem dL_law_1111 : decode cL_law 1111 = .ok (.ireturn, 1) := by decide +kernel
theorem dL_law_1112 : decode cL_law 1112 = .ok (.iload 6, 2) := by decide +kernel
theorem dL_law_1114 : decode cL_law 1114 = .ok (.ifCond .ne 15, 3) := by decide +kernel
theorem dL_law_1117 : decode cL_law 1117 = .ok (.aload_n 3, 1) := by decide +kernel
theorem dL_law_1118 : decode cL_law 1118 = .ok (.iconst 0, 1) := by decide +kernel
theorem dL_law_1119 : decode cL_law 1119 = .ok (.laload, 1) := by decide +kernel
theorem dL_law_1120 : decode cL_law 1120 = .ok (.iload 7, 2) := by decide +kernel
theorem dL_law_1122 : decode cL_law 1122 = .ok (.i2l, 1) := by decide +kernel
theorem dL_law_1123 : decode cL_law 1123 = .ok (.lcmp, 1) := by decide +kernel
theorem dL_law_1124 : decode cL_law 1124 = .ok (.ifCond .eq 5, 3) := by decide +kernel
theorem dL_law_1127 : decode cL_law 1127 = .ok (.iconst 0, 1) := by decide +kernel
theorem dL_law_1128 : decode cL_law 1128 = .ok (.ireturn, 1) := by decide +kernel
theorem dL_law_1129 : decode cL_law 1129 = .ok (.goto 938, 3) := by decide +kernel
theorem dL_law_1132 : decode cL_law 1132 = .ok (.aload_n 1, 1) := by decide +kernel
theorem dL_law_1133 : decode cL_law 1133 = .ok (.aload_n 0, 1) := by decide +kernel
theorem dL_law_1134 : decode cL_law 1134 = .ok (.iload 5, 2) := by decide +kernel
theorem dL_law_1136 : decode cL_law 1136 = .ok (.iconst 1, 1) := by decide +kernel
theorem dL_law_1137 : decode cL_law 1137 = .ok (.iadd, 1) := by decide +kernel
theorem dL_law_1138 : decode cL_law 1138 = .ok (.iaload, 1) := by decide +kernel
theorem dL_law_1139 : decode cL_law 1139 = .ok (.aload_n 3, 1) := by decide +kernel
theorem dL_law_1140 : decode cL_law 1140 = .ok (.invokestatic 200, 3) := by decide +kernel
theorem dL_law_1143 : decode cL_law 1143 = .ok (.istore 6, 2) := by decide +kernel
theorem dL_law_1145 : decode cL_law 1145 = .ok (.aload_n 2, 1) := by decide +kernel
theorem dL_law_1146 : decode cL_law 1146 = .ok (.aload_n 0, 1) := by decide +kernel
theorem dL_law_1147 : decode cL_law 1147 = .ok (.iload 5, 2) := by decide +kernel
theorem dL_law_1149 : decode cL_law 1149 = .ok (.iconst 1, 1) := by decide +kernel
theorem dL_law_1150 : decode cL_law 1150 = .ok (.iadd, 1) := by decide +kernel
theorem dL_law_1151 : decode cL_law 1151 = .ok (.iaload, 1) := by decide +kernel
theorem dL_law_1152 : decode cL_law 1152 = .ok (.invokevirtual 202, 3) := by decide +kernel
theorem dL_law_1155 : decode cL_law 1155 = .ok (.istore 7, 2) := by decide +kernel
theorem dL_law_1157 : decode cL_law 1157 = .ok (.aload_n 2, 1) := by decide +kernel
theorem dL_law_1158 : decode cL_law 1158 = .ok (.invokevirtual 139, 3) := by decide +kernel
theorem dL_law_1161 : decode cL_law 1161 = .ok (.iload 6, 2) := by decide +kernel
theorem dL_law_1163 : decode cL_law 1163 = .ok (.if_icmp .eq 5, 3) := by decide +kernel
theorem dL_law_1166 : decode cL_law 1166 = .ok (.iconst 0, 1) := by decide +kernel
theorem dL_law_1167 : decode cL_law 1167 = .ok (.ireturn, 1) := by decide +kernel
theorem dL_law_1168 : decode cL_law 1168 = .ok (.iload 6, 2) := by decide +kernel
theorem dL_law_1170 : decode cL_law 1170 = .ok (.ifCond .ne 22, 3) := by decide +kernel
theorem dL_law_1173 : decode cL_law 1173 = .ok (.aload_n 3, 1) := by decide +kernel
theorem dL_law_1174 : decode cL_law 1174 = .ok (.iconst 0, 1) := by decide +kernel
theorem dL_law_1175 : decode cL_law 1175 = .ok (.laload, 1) := by decide +kernel
theorem dL_law_1176 : decode cL_law 1176 = .ok (.iload 7, 2) := by decide +kernel
theorem dL_law_1178 : decode cL_law 1178 = .ok (.ifCond .eq 7, 3) := by decide +kernel
theorem dL_law_1181 : decode cL_law 1181 = .ok (.lconst 1, 1) := by decide +kernel
theorem dL_law_1182 : decode cL_law 1182 = .ok (.goto 4, 3) := by decide +kernel
theorem dL_law_1185 : decode cL_law 1185 = .ok (.lconst 0, 1) := by decide +kernel
theorem dL_law_1186 : decode cL_law 1186 = .ok (.lcmp, 1) := by decide +kernel
theorem dL_law_1187 : decode cL_law 1187 = .ok (.ifCond .eq 5, 3) := by decide +kernel
theorem dL_law_1190 : decode cL_law 1190 = .ok (.iconst 0, 1) := by decide +kernel
theorem dL_law_1191 : decode cL_law 1191 = .ok (.ireturn, 1) := by decide +kernel
theorem dL_law_1192 : decode cL_law 1192 = .ok (.goto 875, 3) := by decide +kernel
theorem dL_law_1195 : decode cL_law 1195 = .ok (.aload_n 1, 1) := by decide +kernel
theorem dL_law_1196 : decode cL_law 1196 = .ok (.aload_n 3, 1) := by decide +kernel
theorem dL_law_1197 : decode cL_law 1197 = .ok (.invokestatic 203, 3) := by decide +kernel
theorem dL_law_1200 : decode cL_law 1200 = .ok (.istore 6, 2) := by decide +kernel
theorem dL_law_1202 : decode cL_law 1202 = .ok (.aload_n 2, 1) := by decide +kernel
theorem dL_law_1203 : decode cL_law 1203 = .ok (.invokevirtual 205, 3) := by decide +kernel
theorem dL_law_1206 : decode cL_law 1206 = .ok (.istore 7, 2) := by decide +kernel
theorem dL_law_1208 : decode cL_law 1208 = .ok (.aload_n 2, 1) := by decide +kernel
theorem dL_law_1209 : decode cL_law 1209 = .ok (.invokevirtual 139, 3) := by decide +kernel
theorem dL_law_1212 : decode cL_law 1212 = .ok (.iload 6, 2) := by decide +kernel
theorem dL_law_1214 : decode cL_law 1214 = .ok (.if_icmp .eq 5, 3) := by decide +kernel
theorem dL_law_1217 : decode cL_law 1217 = .ok (.iconst 0, 1) := by decide +kernel
theorem dL_law_1218 : decode cL_law 1218 = .ok (.ireturn, 1) := by decide +kernel
theorem dL_law_1219 : decode cL_law 1219 = .ok (.iload 6, 2) := by decide +kernel
theorem dL_law_1221 : decode cL_law 1221 = .ok (.ifCond .ne 15, 3) := by decide +kernel
theorem dL_law_1224 : decode cL_law 1224 = .ok (.aload_n 3, 1) := by decide +kernel
theorem dL_law_1225 : decode cL_law 1225 = .ok (.iconst 0, 1) := by decide +kernel
theorem dL_law_1226 : decode cL_law 1226 = .ok (.laload, 1) := by decide +kernel
theorem dL_law_1227 : decode cL_law 1227 = .ok (.iload 7, 2) := by decide +kernel
theorem dL_law_1229 : decode cL_law 1229 = .ok (.i2l, 1) := by decide +kernel
theorem dL_law_1230 : decode cL_law 1230 = .ok (.lcmp, 1) := by decide +kernel
theorem dL_law_1231 : decode cL_law 1231 = .ok (.ifCond .eq 5, 3) := by decide +kernel
theorem dL_law_1234 : decode cL_law 1234 = .ok (.iconst 0, 1) := by decide +kernel
theorem dL_law_1235 : decode cL_law 1235 = .ok (.ireturn, 1) := by decide +kernel
theorem dL_law_1236 : decode cL_law 1236 = .ok (.goto 831, 3) := by decide +kernel
theorem dL_law_1239 : decode cL_law 1239 = .ok (.aload_n 1, 1) := by decide +kernel
theorem dL_law_1240 : decode cL_law 1240 = .ok (.aload_n 0, 1) := by decide +kernel
theorem dL_law_1241 : decode cL_law 1241 = .ok (.iload 5, 2) := by decide +kernel
theorem dL_law_1243 : decode cL_law 1243 = .ok (.iconst 1, 1) := by decide +kernel
theorem dL_law_1244 : decode cL_law 1244 = .ok (.iadd, 1) := by decide +kernel
theorem dL_law_1245 : decode cL_law 1245 = .ok (.iaload, 1) := by decide +kernel
theorem dL_law_1246 : decode cL_law 1246 = .ok (.aload_n 3, 1) := by decide +kernel
theorem dL_law_1247 : decode cL_law 1247 = .ok (.invokestatic 206, 3) := by decide +kernel
theorem dL_law_1250 : decode cL_law 1250 = .ok (.istore 6, 2) := by decide +kernel
theorem dL_law_1252 : decode cL_law 1252 = .ok (.aload_n 2, 1) := by decide +kernel
theorem dL_law_1253 : decode cL_law 1253 = .ok (.aload_n 0, 1) := by decide +kernel
theorem dL_law_1254 : decode cL_law 1254 = .ok (.iload 5, 2) := by decide +kernel
theorem dL_law_1256 : decode cL_law 1256 = .ok (.iconst 1, 1) := by decide +kernel
theorem dL_law_1257 : decode cL_law 1257 = .ok (.iadd, 1) := by decide +kernel
theorem dL_law_1258 : decode cL_law 1258 = .ok (.iaload, 1) := by decide +kernel
theorem dL_law_1259 : decode cL_law 1259 = .ok (.invokevirtual 208, 3) := by decide +kernel
theorem dL_law_1262 : decode cL_law 1262 = .ok (.istore 7, 2) := by decide +kernel
theorem dL_law_1264 : decode cL_law 1264 = .ok (.aload_n 2, 1) := by decide +kernel
theorem dL_law_1265 : decode cL_law 1265 = .ok (.invokevirtual 139, 3) := by decide +kernel
theorem dL_law_1268 : decode cL_law 1268 = .ok (.iload 6, 2) := by decide +kernel
theorem dL_law_1270 : decode cL_law 1270 = .ok (.if_icmp .eq 5, 3) := by decide +kernel
theorem dL_law_1273 : decode cL_law 1273 = .ok (.iconst 0, 1) := by decide +kernel
theorem dL_law_1274 : decode cL_law 1274 = .ok (.ireturn, 1) := by decide +kernel
theorem dL_law_1275 : decode cL_law 1275 = .ok (.iload 6, 2) := by decide +kernel
theorem dL_law_1277 : decode cL_law 1277 = .ok (.ifCond .ne 15, 3) := by decide +kernel
theorem dL_law_1280 : decode cL_law 1280 = .ok (.aload_n 3, 1) := by decide +kernel
theorem dL_law_1281 : decode cL_law 1281 = .ok (.iconst 0, 1) := by decide +kernel
theorem dL_law_1282 : decode cL_law 1282 = .ok (.laload, 1) := by decide +kernel
theorem dL_law_1283 : decode cL_law 1283 = .ok (.iload 7, 2) := by decide +kernel
theorem dL_law_1285 : decode cL_law 1285 = .ok (.i2l, 1) := by decide +kernel
theorem dL_law_1286 : decode cL_law 1286 = .ok (.lcmp, 1) := by decide +kernel
theorem dL_law_1287 : decode cL_law 1287 = .ok (.ifCond .eq 5, 3) := by decide +kernel
theorem dL_law_1290 : decode cL_law 1290 = .ok (.iconst 0, 1) := by decide +kernel
theorem dL_law_1291 : decode cL_law 1291 = .ok (.ireturn, 1) := by decide +kernel
theorem dL_law_1292 : decode cL_law 1292 = .ok (.goto 775, 3) := by decide +kernel
theorem dL_law_1295 : decode cL_law 1295 = .ok (.aload_n 1, 1) := by decide +kernel
theorem dL_law_1296 : decode cL_law 1296 = .ok (.aload_n 3, 1) := by decide +kernel
theorem dL_law_1297 : decode cL_law 1297 = .ok (.invokestatic 209, 3) := by decide +kernel
theorem dL_law_1300 : decode cL_law 1300 = .ok (.istore 6, 2) := by decide +kernel
theorem dL_law_1302 : decode cL_law 1302 = .ok (.aload_n 2, 1) := by decide +kernel
theorem dL_law_1303 : decode cL_law 1303 = .ok (.invokevirtual 211, 3) := by decide +kernel
theorem dL_law_1306 : decode cL_law 1306 = .ok (.istore 7, 2) := by decide +kernel
theorem dL_law_1308 : decode cL_law 1308 = .ok (.aload_n 2, 1) := by decide +kernel
theorem dL_law_1309 : decode cL_law 1309 = .ok (.invokevirtual 139, 3) := by decide +kernel
theorem dL_law_1312 : decode cL_law 1312 = .ok (.iload 6, 2) := by decide +kernel
theorem dL_law_1314 : decode cL_law 1314 = .ok (.if_icmp .eq 5, 3) := by decide +kernel
theorem dL_law_1317 : decode cL_law 1317 = .ok (.iconst 0, 1) := by decide +kernel
theorem dL_law_1318 : decode cL_law 1318 = .ok (.ireturn, 1) := by decide +kernel
theorem dL_law_1319 : decode cL_law 1319 = .ok (.iload 6, 2) := by decide +kernel
theorem dL_law_1321 : decode cL_law 1321 = .ok (.ifCond .ne 15, 3) := by decide +kernel
theorem dL_law_1324 : decode cL_law 1324 = .ok (.aload_n 3, 1) := by decide +kernel
theorem dL_law_1325 : decode cL_law 1325 = .ok (.iconst 0, 1) := by decide +kernel
theorem dL_law_1326 : decode cL_law 1326 = .ok (.laload, 1) := by decide +kernel
theorem dL_law_1327 : decode cL_law 1327 = .ok (.iload 7, 2) := by decide +kernel
theorem dL_law_1329 : decode cL_law 1329 = .ok (.i2l, 1) := by decide +kernel
theorem dL_law_1330 : decode cL_law 1330 = .ok (.lcmp, 1) := by decide +kernel
theorem dL_law_1331 : decode cL_law 1331 = .ok (.ifCond .eq 5, 3) := by decide +kernel
theorem dL_law_1334 : decode cL_law 1334 = .ok (.iconst 0, 1) := by decide +kernel
theorem dL_law_1335 : decode cL_law 1335 = .ok (.ireturn, 1) := by decide +kernel
theorem dL_law_1336 : decode cL_law 1336 = .ok (.goto 731, 3) := by decide +kernel
theorem dL_law_1339 : decode cL_law 1339 = .ok (.aload_n 1, 1) := by decide +kernel
theorem dL_law_1340 : decode cL_law 1340 = .ok (.aload_n 3, 1) := by decide +kernel
theorem dL_law_1341 : decode cL_law 1341 = .ok (.invokestatic 212, 3) := by decide +kernel
theorem dL_law_1344 : decode cL_law 1344 = .ok (.istore 6, 2) := by decide +kernel
theorem dL_law_1346 : decode cL_law 1346 = .ok (.aload_n 2, 1) := by decide +kernel
theorem dL_law_1347 : decode cL_law 1347 = .ok (.invokevirtual 214, 3) := by decide +kernel
theorem dL_law_1350 : decode cL_law 1350 = .ok (.istore 7, 2) := by decide +kernel
theorem dL_law_1352 : decode cL_law 1352 = .ok (.aload_n 2, 1) := by decide +kernel
theorem dL_law_1353 : decode cL_law 1353 = .ok (.invokevirtual 139, 3) := by decide +kernel
theorem dL_law_1356 : decode cL_law 1356 = .ok (.iload 6, 2) := by decide +kernel
theorem dL_law_1358 : decode cL_law 1358 = .ok (.if_icmp .eq 5, 3) := by decide +kernel
theorem dL_law_1361 : decode cL_law 1361 = .ok (.iconst 0, 1) := by decide +kernel
theorem dL_law_1362 : decode cL_law 1362 = .ok (.ireturn, 1) := by decide +kernel
end
section
theorem dL_law_1363 : decode cL_law 1363 = .ok (.iload 6, 2) := by decide +kernel
theorem dL_law_1365 : decode cL_law 1365 = .ok (.ifCond .ne 15, 3) := by decide +kernel
theorem dL_law_1368 : decode cL_law 1368 = .ok (.aload_n 3, 1) := by decide +kernel
theorem dL_law_1369 : decode cL_law 1369 = .ok (.iconst 0, 1) := by decide +kernel
theorem dL_law_1370 : decode cL_law 1370 = .ok (.laload, 1) := by decide +kernel
theorem dL_law_1371 : decode cL_law 1371 = .ok (.iload 7, 2) := by decide +kernel
theorem dL_law_1373 : decode cL_law 1373 = .ok (.i2l, 1) := by decide +kernel
theorem dL_law_1374 : decode cL_law 1374 = .ok (.lcmp, 1) := by decide +kernel
theorem dL_law_1375 : decode cL_law 1375 = .ok (.ifCond .eq 5, 3) := by decide +kernel
theorem dL_law_1378 : decode cL_law 1378 = .ok (.iconst 0, 1) := by decide +kernel
theorem dL_law_1379 : decode cL_law 1379 = .ok (.ireturn, 1) := by decide +kernel
theorem dL_law_1380 : decode cL_law 1380 = .ok (.goto 687, 3) := by decide +kernel
theorem dL_law_1383 : decode cL_law 1383 = .ok (.aload_n 1, 1) := by decide +kernel
theorem dL_law_1384 : decode cL_law 1384 = .ok (.aload_n 3, 1) := by decide +kernel
theorem dL_law_1385 : decode cL_law 1385 = .ok (.invokestatic 215, 3) := by decide +kernel
theorem dL_law_1388 : decode cL_law 1388 = .ok (.istore 6, 2) := by decide +kernel
theorem dL_law_1390 : decode cL_law 1390 = .ok (.aload_n 2, 1) := by decide +kernel
theorem dL_law_1391 : decode cL_law 1391 = .ok (.invokevirtual 217, 3) := by decide +kernel
theorem dL_law_1394 : decode cL_law 1394 = .ok (.istore 7, 2) := by decide +kernel
theorem dL_law_1396 : decode cL_law 1396 = .ok (.aload_n 2, 1) := by decide +kernel
theorem dL_law_1397 : decode cL_law 1397 = .ok (.invokevirtual 139, 3) := by decide +kernel
theorem dL_law_1400 : decode cL_law 1400 = .ok (.iload 6, 2) := by decide +kernel
theorem dL_law_1402 : decode cL_law 1402 = .ok (.if_icmp .eq 5, 3) := by decide +kernel
theorem dL_law_1405 : decode cL_law 1405 = .ok (.iconst 0, 1) := by decide +kernel
theorem dL_law_1406 : decode cL_law 1406 = .ok (.ireturn, 1) := by decide +kernel
theorem dL_law_1407 : decode cL_law 1407 = .ok (.iload 6, 2) := by decide +kernel
theorem dL_law_1409 : decode cL_law 1409 = .ok (.ifCond .ne 15, 3) := by decide +kernel
theorem dL_law_1412 : decode cL_law 1412 = .ok (.aload_n 3, 1) := by decide +kernel
theorem dL_law_1413 : decode cL_law 1413 = .ok (.iconst 0, 1) := by decide +kernel
theorem dL_law_1414 : decode cL_law 1414 = .ok (.laload, 1) := by decide +kernel
theorem dL_law_1415 : decode cL_law 1415 = .ok (.iload 7, 2) := by decide +kernel
theorem dL_law_1417 : decode cL_law 1417 = .ok (.i2l, 1) := by decide +kernel
theorem dL_law_1418 : decode cL_law 1418 = .ok (.lcmp, 1) := by decide +kernel
theorem dL_law_1419 : decode cL_law 1419 = .ok (.ifCond .eq 5, 3) := by decide +kernel
theorem dL_law_1422 : decode cL_law 1422 = .ok (.iconst 0, 1) := by decide +kernel
theorem dL_law_1423 : decode cL_law 1423 = .ok (.ireturn, 1) := by decide +kernel
theorem dL_law_1424 : decode cL_law 1424 = .ok (.goto 643, 3) := by decide +kernel
theorem dL_law_1427 : decode cL_law 1427 = .ok (.aload_n 1, 1) := by decide +kernel
theorem dL_law_1428 : decode cL_law 1428 = .ok (.aload_n 3, 1) := by decide +kernel
theorem dL_law_1429 : decode cL_law 1429 = .ok (.invokestatic 218, 3) := by decide +kernel
theorem dL_law_1432 : decode cL_law 1432 = .ok (.istore 6, 2) := by decide +kernel
theorem dL_law_1434 : decode cL_law 1434 = .ok (.aload_n 2, 1) := by decide +kernel
theorem dL_law_1435 : decode cL_law 1435 = .ok (.invokevirtual 220, 3) := by decide +kernel
theorem dL_law_1438 : decode cL_law 1438 = .ok (.istore 7, 2) := by decide +kernel
theorem dL_law_1440 : decode cL_law 1440 = .ok (.aload_n 2, 1) := by decide +kernel
theorem dL_law_1441 : decode cL_law 1441 = .ok (.invokevirtual 139, 3) := by decide +kernel
theorem dL_law_1444 : decode cL_law 1444 = .ok (.iload 6, 2) := by decide +kernel
theorem dL_law_1446 : decode cL_law 1446 = .ok (.if_icmp .eq 5, 3) := by decide +kernel
theorem dL_law_1449 : decode cL_law 1449 = .ok (.iconst 0, 1) := by decide +kernel
theorem dL_law_1450 : decode cL_law 1450 = .ok (.ireturn, 1) := by decide +kernel
theorem dL_law_1451 : decode cL_law 1451 = .ok (.iload 6, 2) := by decide +kernel
theorem dL_law_1453 : decode cL_law 1453 = .ok (.ifCond .ne 15, 3) := by decide +kernel
theorem dL_law_1456 : decode cL_law 1456 = .ok (.aload_n 3, 1) := by decide +kernel
theorem dL_law_1457 : decode cL_law 1457 = .ok (.iconst 0, 1) := by decide +kernel
theorem dL_law_1458 : decode cL_law 1458 = .ok (.laload, 1) := by decide +kernel
theorem dL_law_1459 : decode cL_law 1459 = .ok (.iload 7, 2) := by decide +kernel
theorem dL_law_1461 : decode cL_law 1461 = .ok (.i2l, 1) := by decide +kernel
theorem dL_law_1462 : decode cL_law 1462 = .ok (.lcmp, 1) := by decide +kernel
theorem dL_law_1463 : decode cL_law 1463 = .ok (.ifCond .eq 5, 3) := by decide +kernel
theorem dL_law_1466 : decode cL_law 1466 = .ok (.iconst 0, 1) := by decide +kernel
theorem dL_law_1467 : decode cL_law 1467 = .ok (.ireturn, 1) := by decide +kernel
theorem dL_law_1468 : decode cL_law 1468 = .ok (.goto 599, 3) := by decide +kernel
theorem dL_law_1471 : decode cL_law 1471 = .ok (.aload_n 1, 1) := by decide +kernel
theorem dL_law_1472 : decode cL_law 1472 = .ok (.aload_n 3, 1) := by decide +kernel
theorem dL_law_1473 : decode cL_law 1473 = .ok (.invokestatic 221, 3) := by decide +kernel
theorem dL_law_1476 : decode cL_law 1476 = .ok (.istore 6, 2) := by decide +kernel
theorem dL_law_1478 : decode cL_law 1478 = .ok (.aload_n 2, 1) := by decide +kernel
theorem dL_law_1479 : decode cL_law 1479 = .ok (.invokevirtual 223, 3) := by decide +kernel
theorem dL_law_1482 : decode cL_law 1482 = .ok (.istore 7, 2) := by decide +kernel
theorem dL_law_1484 : decode cL_law 1484 = .ok (.aload_n 2, 1) := by decide +kernel
theorem dL_law_1485 : decode cL_law 1485 = .ok (.invokevirtual 139, 3) := by decide +kernel
theorem dL_law_1488 : decode cL_law 1488 = .ok (.iload 6, 2) := by decide +kernel
theorem dL_law_1490 : decode cL_law 1490 = .ok (.if_icmp .eq 5, 3) := by decide +kernel
theorem dL_law_1493 : decode cL_law 1493 = .ok (.iconst 0, 1) := by decide +kernel
theorem dL_law_1494 : decode cL_law 1494 = .ok (.ireturn, 1) := by decide +kernel
theorem dL_law_1495 : decode cL_law 1495 = .ok (.iload 6, 2) := by decide +kernel
theorem dL_law_1497 : decode cL_law 1497 = .ok (.ifCond .ne 15, 3) := by decide +kernel
theorem dL_law_1500 : decode cL_law 1500 = .ok (.aload_n 3, 1) := by decide +kernel
theorem dL_law_1501 : decode cL_law 1501 = .ok (.iconst 0, 1) := by decide +kernel
theorem dL_law_1502 : decode cL_law 1502 = .ok (.laload, 1) := by decide +kernel
theorem dL_law_1503 : decode cL_law 1503 = .ok (.iload 7, 2) := by decide +kernel
theorem dL_law_1505 : decode cL_law 1505 = .ok (.i2l, 1) := by decide +kernel
theorem dL_law_1506 : decode cL_law 1506 = .ok (.lcmp, 1) := by decide +kernel
theorem dL_law_1507 : decode cL_law 1507 = .ok (.ifCond .eq 5, 3) := by decide +kernel
theorem dL_law_1510 : decode cL_law 1510 = .ok (.iconst 0, 1) := by decide +kernel
theorem dL_law_1511 : decode cL_law 1511 = .ok (.ireturn, 1) := by decide +kernel
theorem dL_law_1512 : decode cL_law 1512 = .ok (.goto 555, 3) := by decide +kernel
theorem dL_law_1515 : decode cL_law 1515 = .ok (.aload_n 1, 1) := by decide +kernel
theorem dL_law_1516 : decode cL_law 1516 = .ok (.aload 4, 2) := by decide +kernel
theorem dL_law_1518 : decode cL_law 1518 = .ok (.invokestatic 224, 3) := by decide +kernel
theorem dL_law_1521 : decode cL_law 1521 = .ok (.istore 6, 2) := by decide +kernel
theorem dL_law_1523 : decode cL_law 1523 = .ok (.aload_n 2, 1) := by decide +kernel
theorem dL_law_1524 : decode cL_law 1524 = .ok (.invokevirtual 227, 3) := by decide +kernel
theorem dL_law_1527 : decode cL_law 1527 = .ok (.dstore 7, 2) := by decide +kernel
theorem dL_law_1529 : decode cL_law 1529 = .ok (.aload_n 2, 1) := by decide +kernel
theorem dL_law_1530 : decode cL_law 1530 = .ok (.invokevirtual 139, 3) := by decide +kernel
theorem dL_law_1533 : decode cL_law 1533 = .ok (.iload 6, 2) := by decide +kernel
theorem dL_law_1535 : decode cL_law 1535 = .ok (.if_icmp .eq 5, 3) := by decide +kernel
theorem dL_law_1538 : decode cL_law 1538 = .ok (.iconst 0, 1) := by decide +kernel
theorem dL_law_1539 : decode cL_law 1539 = .ok (.ireturn, 1) := by decide +kernel
theorem dL_law_1540 : decode cL_law 1540 = .ok (.iload 6, 2) := by decide +kernel
theorem dL_law_1542 : decode cL_law 1542 = .ok (.ifCond .ne 35, 3) := by decide +kernel
theorem dL_law_1545 : decode cL_law 1545 = .ok (.aload 4, 2) := by decide +kernel
theorem dL_law_1547 : decode cL_law 1547 = .ok (.iconst 0, 1) := by decide +kernel
theorem dL_law_1548 : decode cL_law 1548 = .ok (.daload, 1) := by decide +kernel
theorem dL_law_1549 : decode cL_law 1549 = .ok (.dload 7, 2) := by decide +kernel
theorem dL_law_1551 : decode cL_law 1551 = .ok (.dcmp .l, 1) := by decide +kernel
theorem dL_law_1552 : decode cL_law 1552 = .ok (.ifCond .eq 25, 3) := by decide +kernel
theorem dL_law_1555 : decode cL_law 1555 = .ok (.aload 4, 2) := by decide +kernel
theorem dL_law_1557 : decode cL_law 1557 = .ok (.iconst 0, 1) := by decide +kernel
theorem dL_law_1558 : decode cL_law 1558 = .ok (.daload, 1) := by decide +kernel
theorem dL_law_1559 : decode cL_law 1559 = .ok (.aload 4, 2) := by decide +kernel
theorem dL_law_1561 : decode cL_law 1561 = .ok (.iconst 0, 1) := by decide +kernel
theorem dL_law_1562 : decode cL_law 1562 = .ok (.daload, 1) := by decide +kernel
theorem dL_law_1563 : decode cL_law 1563 = .ok (.dcmp .l, 1) := by decide +kernel
theorem dL_law_1564 : decode cL_law 1564 = .ok (.ifCond .eq 11, 3) := by decide +kernel
theorem dL_law_1567 : decode cL_law 1567 = .ok (.dload 7, 2) := by decide +kernel
theorem dL_law_1569 : decode cL_law 1569 = .ok (.dload 7, 2) := by decide +kernel
theorem dL_law_1571 : decode cL_law 1571 = .ok (.dcmp .l, 1) := by decide +kernel
theorem dL_law_1572 : decode cL_law 1572 = .ok (.ifCond .ne 5, 3) := by decide +kernel
theorem dL_law_1575 : decode cL_law 1575 = .ok (.iconst 0, 1) := by decide +kernel
theorem dL_law_1576 : decode cL_law 1576 = .ok (.ireturn, 1) := by decide +kernel
theorem dL_law_1577 : decode cL_law 1577 = .ok (.goto 490, 3) := by decide +kernel
theorem dL_law_1580 : decode cL_law 1580 = .ok (.aload_n 1, 1) := by decide +kernel
theorem dL_law_1581 : decode cL_law 1581 = .ok (.invokevirtual 228, 3) := by decide +kernel
theorem dL_law_1584 : decode cL_law 1584 = .ok (.aload_n 2, 1) := by decide +kernel
theorem dL_law_1585 : decode cL_law 1585 = .ok (.invokevirtual 231, 3) := by decide +kernel
theorem dL_law_1588 : decode cL_law 1588 = .ok (.if_icmp .eq 479, 3) := by decide +kernel
theorem dL_law_1591 : decode cL_law 1591 = .ok (.iconst 0, 1) := by decide +kernel
theorem dL_law_1592 : decode cL_law 1592 = .ok (.ireturn, 1) := by decide +kernel
theorem dL_law_1593 : decode cL_law 1593 = .ok (.aload_n 1, 1) := by decide +kernel
theorem dL_law_1594 : decode cL_law 1594 = .ok (.aload_n 0, 1) := by decide +kernel
theorem dL_law_1595 : decode cL_law 1595 = .ok (.iload 5, 2) := by decide +kernel
theorem dL_law_1597 : decode cL_law 1597 = .ok (.iconst 1, 1) := by decide +kernel
theorem dL_law_1598 : decode cL_law 1598 = .ok (.iadd, 1) := by decide +kernel
theorem dL_law_1599 : decode cL_law 1599 = .ok (.iaload, 1) := by decide +kernel
theorem dL_law_1600 : decode cL_law 1600 = .ok (.aload_n 3, 1) := by decide +kernel
theorem dL_law_1601 : decode cL_law 1601 = .ok (.invokestatic 232, 3) := by decide +kernel
theorem dL_law_1604 : decode cL_law 1604 = .ok (.istore 6, 2) := by decide +kernel
theorem dL_law_1606 : decode cL_law 1606 = .ok (.aload_n 2, 1) := by decide +kernel
theorem dL_law_1607 : decode cL_law 1607 = .ok (.aload_n 0, 1) := by decide +kernel
theorem dL_law_1608 : decode cL_law 1608 = .ok (.iload 5, 2) := by decide +kernel
theorem dL_law_1610 : decode cL_law 1610 = .ok (.iconst 1, 1) := by decide +kernel
theorem dL_law_1611 : decode cL_law 1611 = .ok (.iadd, 1) := by decide +kernel
theorem dL_law_1612 : decode cL_law 1612 = .ok (.iaload, 1) := by decide +kernel
theorem dL_law_1613 : decode cL_law 1613 = .ok (.invokevirtual 234, 3) := by decide +kernel
theorem dL_law_1616 : decode cL_law 1616 = .ok (.istore 7, 2) := by decide +kernel
theorem dL_law_1618 : decode cL_law 1618 = .ok (.aload_n 2, 1) := by decide +kernel
theorem dL_law_1619 : decode cL_law 1619 = .ok (.invokevirtual 139, 3) := by decide +kernel
theorem dL_law_1622 : decode cL_law 1622 = .ok (.iload 6, 2) := by decide +kernel
theorem dL_law_1624 : decode cL_law 1624 = .ok (.if_icmp .eq 5, 3) := by decide +kernel
theorem dL_law_1627 : decode cL_law 1627 = .ok (.iconst 0, 1) := by decide +kernel
theorem dL_law_1628 : decode cL_law 1628 = .ok (.ireturn, 1) := by decide +kernel
theorem dL_law_1629 : decode cL_law 1629 = .ok (.iload 6, 2) := by decide +kernel
theorem dL_law_1631 : decode cL_law 1631 = .ok (.ifCond .ne 15, 3) := by decide +kernel
theorem dL_law_1634 : decode cL_law 1634 = .ok (.aload_n 3, 1) := by decide +kernel
theorem dL_law_1635 : decode cL_law 1635 = .ok (.iconst 0, 1) := by decide +kernel
theorem dL_law_1636 : decode cL_law 1636 = .ok (.laload, 1) := by decide +kernel
theorem dL_law_1637 : decode cL_law 1637 = .ok (.iload 7, 2) := by decide +kernel
theorem dL_law_1639 : decode cL_law 1639 = .ok (.i2l, 1) := by decide +kernel
theorem dL_law_1640 : decode cL_law 1640 = .ok (.lcmp, 1) := by decide +kernel
theorem dL_law_1641 : decode cL_law 1641 = .ok (.ifCond .eq 5, 3) := by decide +kernel
theorem dL_law_1644 : decode cL_law 1644 = .ok (.iconst 0, 1) := by decide +kernel
theorem dL_law_1645 : decode cL_law 1645 = .ok (.ireturn, 1) := by decide +kernel
theorem dL_law_1646 : decode cL_law 1646 = .ok (.goto 421, 3) := by decide +kernel
theorem dL_law_1649 : decode cL_law 1649 = .ok (.aload_n 1, 1) := by decide +kernel
theorem dL_law_1650 : decode cL_law 1650 = .ok (.aload_n 0, 1) := by decide +kernel
theorem dL_law_1651 : decode cL_law 1651 = .ok (.iload 5, 2) := by decide +kernel
theorem dL_law_1653 : decode cL_law 1653 = .ok (.iconst 1, 1) := by decide +kernel
theorem dL_law_1654 : decode cL_law 1654 = .ok (.iadd, 1) := by decide +kernel
theorem dL_law_1655 : decode cL_law 1655 = .ok (.iaload, 1) := by decide +kernel
theorem dL_law_1656 : decode cL_law 1656 = .ok (.aload_n 0, 1) := by decide +kernel
theorem dL_law_1657 : decode cL_law 1657 = .ok (.iload 5, 2) := by decide +kernel
theorem dL_law_1659 : decode cL_law 1659 = .ok (.iconst 2, 1) := by decide +kernel
theorem dL_law_1660 : decode cL_law 1660 = .ok (.iadd, 1) := by decide +kernel
theorem dL_law_1661 : decode cL_law 1661 = .ok (.iaload, 1) := by decide +kernel
theorem dL_law_1662 : decode cL_law 1662 = .ok (.aload_n 3, 1) := by decide +kernel
theorem dL_law_1663 : decode cL_law 1663 = .ok (.invokestatic 235, 3) := by decide +kernel
theorem dL_law_1666 : decode cL_law 1666 = .ok (.istore 6, 2) := by decide +kernel
theorem dL_law_1668 : decode cL_law 1668 = .ok (.aload_n 2, 1) := by decide +kernel
theorem dL_law_1669 : decode cL_law 1669 = .ok (.aload_n 0, 1) := by decide +kernel
theorem dL_law_1670 : decode cL_law 1670 = .ok (.iload 5, 2) := by decide +kernel
theorem dL_law_1672 : decode cL_law 1672 = .ok (.iconst 1, 1) := by decide +kernel
theorem dL_law_1673 : decode cL_law 1673 = .ok (.iadd, 1) := by decide +kernel
theorem dL_law_1674 : decode cL_law 1674 = .ok (.iaload, 1) := by decide +kernel
theorem dL_law_1675 : decode cL_law 1675 = .ok (.aload_n 0, 1) := by decide +kernel
theorem dL_law_1676 : decode cL_law 1676 = .ok (.iload 5, 2) := by decide +kernel
theorem dL_law_1678 : decode cL_law 1678 = .ok (.iconst 2, 1) := by decide +kernel
theorem dL_law_1679 : decode cL_law 1679 = .ok (.iadd, 1) := by decide +kernel
theorem dL_law_1680 : decode cL_law 1680 = .ok (.iaload, 1) := by decide +kernel
theorem dL_law_1681 : decode cL_law 1681 = .ok (.invokevirtual 237, 3) := by decide +kernel
theorem dL_law_1684 : decode cL_law 1684 = .ok (.istore 7, 2) := by decide +kernel
theorem dL_law_1686 : decode cL_law 1686 = .ok (.aload_n 2, 1) := by decide +kernel
theorem dL_law_1687 : decode cL_law 1687 = .ok (.invokevirtual 139, 3) := by decide +kernel
theorem dL_law_1690 : decode cL_law 1690 = .ok (.iload 6, 2) := by decide +kernel
theorem dL_law_1692 : decode cL_law 1692 = .ok (.if_icmp .eq 5, 3) := by decide +kernel
theorem dL_law_1695 : decode cL_law 1695 = .ok (.iconst 0, 1) := by decide +kernel
theorem dL_law_1696 : decode cL_law 1696 = .ok (.ireturn, 1) := by decide +kernel
theorem dL_law_1697 : decode cL_law 1697 = .ok (.iload 6, 2) := by decide +kernel
theorem dL_law_1699 : decode cL_law 1699 = .ok (.ifCond .ne 15, 3) := by decide +kernel
theorem dL_law_1702 : decode cL_law 1702 = .ok (.aload_n 3, 1) := by decide +kernel
theorem dL_law_1703 : decode cL_law 1703 = .ok (.iconst 0, 1) := by decide +kernel
theorem dL_law_1704 : decode cL_law 1704 = .ok (.laload, 1) := by decide +kernel
theorem dL_law_1705 : decode cL_law 1705 = .ok (.iload 7, 2) := by decide +kernel
theorem dL_law_1707 : decode cL_law 1707 = .ok (.i2l, 1) := by decide +kernel
theorem dL_law_1708 : decode cL_law 1708 = .ok (.lcmp, 1) := by decide +kernel
theorem dL_law_1709 : decode cL_law 1709 = .ok (.ifCond .eq 5, 3) := by decide +kernel
theorem dL_law_1712 : decode cL_law 1712 = .ok (.iconst 0, 1) := by decide +kernel
theorem dL_law_1713 : decode cL_law 1713 = .ok (.ireturn, 1) := by decide +kernel
theorem dL_law_1714 : decode cL_law 1714 = .ok (.goto 353, 3) := by decide +kernel
theorem dL_law_1717 : decode cL_law 1717 = .ok (.aload_n 1, 1) := by decide +kernel
theorem dL_law_1718 : decode cL_law 1718 = .ok (.aload_n 0, 1) := by decide +kernel
theorem dL_law_1719 : decode cL_law 1719 = .ok (.iload 5, 2) := by decide +kernel
theorem dL_law_1721 : decode cL_law 1721 = .ok (.iconst 1, 1) := by decide +kernel
theorem dL_law_1722 : decode cL_law 1722 = .ok (.iadd, 1) := by decide +kernel
theorem dL_law_1723 : decode cL_law 1723 = .ok (.iaload, 1) := by decide +kernel
theorem dL_law_1724 : decode cL_law 1724 = .ok (.aload_n 0, 1) := by decide +kernel
theorem dL_law_1725 : decode cL_law 1725 = .ok (.iload 5, 2) := by decide +kernel
theorem dL_law_1727 : decode cL_law 1727 = .ok (.iconst 2, 1) := by decide +kernel
theorem dL_law_1728 : decode cL_law 1728 = .ok (.iadd, 1) := by decide +kernel
theorem dL_law_1729 : decode cL_law 1729 = .ok (.iaload, 1) := by decide +kernel
theorem dL_law_1730 : decode cL_law 1730 = .ok (.aload_n 3, 1) := by decide +kernel
theorem dL_law_1731 : decode cL_law 1731 = .ok (.invokestatic 238, 3) := by decide +kernel
theorem dL_law_1734 : decode cL_law 1734 = .ok (.istore 6, 2) := by decide +kernel
theorem dL_law_1736 : decode cL_law 1736 = .ok (.aload_n 2, 1) := by decide +kernel
theorem dL_law_1737 : decode cL_law 1737 = .ok (.aload_n 0, 1) := by decide +kernel
theorem dL_law_1738 : decode cL_law 1738 = .ok (.iload 5, 2) := by decide +kernel
theorem dL_law_1740 : decode cL_law 1740 = .ok (.iconst 1, 1) := by decide +kernel
theorem dL_law_1741 : decode cL_law 1741 = .ok (.iadd, 1) := by decide +kernel
theorem dL_law_1742 : decode cL_law 1742 = .ok (.iaload, 1) := by decide +kernel
theorem dL_law_1743 : decode cL_law 1743 = .ok (.aload_n 0, 1) := by decide +kernel
theorem dL_law_1744 : decode cL_law 1744 = .ok (.iload 5, 2) := by decide +kernel
theorem dL_law_1746 : decode cL_law 1746 = .ok (.iconst 2, 1) := by decide +kernel
theorem dL_law_1747 : decode cL_law 1747 = .ok (.iadd, 1) := by decide +kernel
theorem dL_law_1748 : decode cL_law 1748 = .ok (.iaload, 1) := by decide +kernel
theorem dL_law_1749 : decode cL_law 1749 = .ok (.invokevirtual 240, 3) := by decide +kernel
theorem dL_law_1752 : decode cL_law 1752 = .ok (.istore 7, 2) := by decide +kernel
theorem dL_law_1754 : decode cL_law 1754 = .ok (.aload_n 2, 1) := by decide +kernel
theorem dL_law_1755 : decode cL_law 1755 = .ok (.invokevirtual 139, 3) := by decide +kernel
theorem dL_law_1758 : decode cL_law 1758 = .ok (.iload 6, 2) := by decide +kernel
theorem dL_law_1760 : decode cL_law 1760 = .ok (.if_icmp .eq 5, 3) := by decide +kernel
theorem dL_law_1763 : decode cL_law 1763 = .ok (.iconst 0, 1) := by decide +kernel
theorem dL_law_1764 : decode cL_law 1764 = .ok (.ireturn, 1) := by decide +kernel
theorem dL_law_1765 : decode cL_law 1765 = .ok (.iload 6, 2) := by decide +kernel
theorem dL_law_1767 : decode cL_law 1767 = .ok (.ifCond .ne 15, 3) := by decide +kernel
theorem dL_law_1770 : decode cL_law 1770 = .ok (.aload_n 3, 1) := by decide +kernel
theorem dL_law_1771 : decode cL_law 1771 = .ok (.iconst 0, 1) := by decide +kernel
theorem dL_law_1772 : decode cL_law 1772 = .ok (.laload, 1) := by decide +kernel
theorem dL_law_1773 : decode cL_law 1773 = .ok (.iload 7, 2) := by decide +kernel
theorem dL_law_1775 : decode cL_law 1775 = .ok (.i2l, 1) := by decide +kernel
theorem dL_law_1776 : decode cL_law 1776 = .ok (.lcmp, 1) := by decide +kernel
theorem dL_law_1777 : decode cL_law 1777 = .ok (.ifCond .eq 5, 3) := by decide +kernel
theorem dL_law_1780 : decode cL_law 1780 = .ok (.iconst 0, 1) := by decide +kernel
theorem dL_law_1781 : decode cL_law 1781 = .ok (.ireturn, 1) := by decide +kernel
theorem dL_law_1782 : decode cL_law 1782 = .ok (.goto 285, 3) := by decide +kernel
theorem dL_law_1785 : decode cL_law 1785 = .ok (.aload_n 1, 1) := by decide +kernel
theorem dL_law_1786 : decode cL_law 1786 = .ok (.aload_n 0, 1) := by decide +kernel
theorem dL_law_1787 : decode cL_law 1787 = .ok (.iload 5, 2) := by decide +kernel
theorem dL_law_1789 : decode cL_law 1789 = .ok (.iconst 1, 1) := by decide +kernel
theorem dL_law_1790 : decode cL_law 1790 = .ok (.iadd, 1) := by decide +kernel
theorem dL_law_1791 : decode cL_law 1791 = .ok (.iaload, 1) := by decide +kernel
theorem dL_law_1792 : decode cL_law 1792 = .ok (.aload_n 3, 1) := by decide +kernel
theorem dL_law_1793 : decode cL_law 1793 = .ok (.invokestatic 241, 3) := by decide +kernel
theorem dL_law_1796 : decode cL_law 1796 = .ok (.istore 6, 2) := by decide +kernel
theorem dL_law_1798 : decode cL_law 1798 = .ok (.aload_n 2, 1) := by decide +kernel
theorem dL_law_1799 : decode cL_law 1799 = .ok (.aload_n 0, 1) := by decide +kernel
theorem dL_law_1800 : decode cL_law 1800 = .ok (.iload 5, 2) := by decide +kernel
theorem dL_law_1802 : decode cL_law 1802 = .ok (.iconst 1, 1) := by decide +kernel
theorem dL_law_1803 : decode cL_law 1803 = .ok (.iadd, 1) := by decide +kernel
theorem dL_law_1804 : decode cL_law 1804 = .ok (.iaload, 1) := by decide +kernel
theorem dL_law_1805 : decode cL_law 1805 = .ok (.invokevirtual 243, 3) := by decide +kernel
theorem dL_law_1808 : decode cL_law 1808 = .ok (.istore 7, 2) := by decide +kernel
theorem dL_law_1810 : decode cL_law 1810 = .ok (.aload_n 2, 1) := by decide +kernel
theorem dL_law_1811 : decode cL_law 1811 = .ok (.invokevirtual 139, 3) := by decide +kernel
theorem dL_law_1814 : decode cL_law 1814 = .ok (.iload 6, 2) := by decide +kernel
theorem dL_law_1816 : decode cL_law 1816 = .ok (.if_icmp .eq 5, 3) := by decide +kernel
theorem dL_law_1819 : decode cL_law 1819 = .ok (.iconst 0, 1) := by decide +kernel
theorem dL_law_1820 : decode cL_law 1820 = .ok (.ireturn, 1) := by decide +kernel
theorem dL_law_1821 : decode cL_law 1821 = .ok (.iload 6, 2) := by decide +kernel
theorem dL_law_1823 : decode cL_law 1823 = .ok (.ifCond .ne 15, 3) := by decide +kernel
theorem dL_law_1826 : decode cL_law 1826 = .ok (.aload_n 3, 1) := by decide +kernel
theorem dL_law_1827 : decode cL_law 1827 = .ok (.iconst 0, 1) := by decide +kernel
theorem dL_law_1828 : decode cL_law 1828 = .ok (.laload, 1) := by decide +kernel
theorem dL_law_1829 : decode cL_law 1829 = .ok (.iload 7, 2) := by decide +kernel
theorem dL_law_1831 : decode cL_law 1831 = .ok (.i2l, 1) := by decide +kernel
theorem dL_law_1832 : decode cL_law 1832 = .ok (.lcmp, 1) := by decide +kernel
theorem dL_law_1833 : decode cL_law 1833 = .ok (.ifCond .eq 5, 3) := by decide +kernel
theorem dL_law_1836 : decode cL_law 1836 = .ok (.iconst 0, 1) := by decide +kernel
theorem dL_law_1837 : decode cL_law 1837 = .ok (.ireturn, 1) := by decide +kernel
theorem dL_law_1838 : decode cL_law 1838 = .ok (.goto 229, 3) := by decide +kernel
theorem dL_law_1841 : decode cL_law 1841 = .ok (.aload_n 1, 1) := by decide +kernel
theorem dL_law_1842 : decode cL_law 1842 = .ok (.aload_n 0, 1) := by decide +kernel
theorem dL_law_1843 : decode cL_law 1843 = .ok (.iload 5, 2) := by decide +kernel
theorem dL_law_1845 : decode cL_law 1845 = .ok (.iconst 1, 1) := by decide +kernel
theorem dL_law_1846 : decode cL_law 1846 = .ok (.iadd, 1) := by decide +kernel
theorem dL_law_1847 : decode cL_law 1847 = .ok (.iaload, 1) := by decide +kernel
theorem dL_law_1848 : decode cL_law 1848 = .ok (.aload_n 3, 1) := by decide +kernel
theorem dL_law_1849 : decode cL_law 1849 = .ok (.invokestatic 244, 3) := by decide +kernel
theorem dL_law_1852 : decode cL_law 1852 = .ok (.istore 6, 2) := by decide +kernel
theorem dL_law_1854 : decode cL_law 1854 = .ok (.aload_n 2, 1) := by decide +kernel
theorem dL_law_1855 : decode cL_law 1855 = .ok (.aload_n 0, 1) := by decide +kernel
theorem dL_law_1856 : decode cL_law 1856 = .ok (.iload 5, 2) := by decide +kernel
theorem dL_law_1858 : decode cL_law 1858 = .ok (.iconst 1, 1) := by decide +kernel
theorem dL_law_1859 : decode cL_law 1859 = .ok (.iadd, 1) := by decide +kernel
theorem dL_law_1860 : decode cL_law 1860 = .ok (.iaload, 1) := by decide +kernel
theorem dL_law_1861 : decode cL_law 1861 = .ok (.invokevirtual 246, 3) := by decide +kernel
theorem dL_law_1864 : decode cL_law 1864 = .ok (.istore 7, 2) := by decide +kernel
theorem dL_law_1866 : decode cL_law 1866 = .ok (.aload_n 2, 1) := by decide +kernel
theorem dL_law_1867 : decode cL_law 1867 = .ok (.invokevirtual 139, 3) := by decide +kernel
theorem dL_law_1870 : decode cL_law 1870 = .ok (.iload 6, 2) := by decide +kernel
theorem dL_law_1872 : decode cL_law 1872 = .ok (.if_icmp .eq 5, 3) := by decide +kernel
theorem dL_law_1875 : decode cL_law 1875 = .ok (.iconst 0, 1) := by decide +kernel
theorem dL_law_1876 : decode cL_law 1876 = .ok (.ireturn, 1) := by decide +kernel
theorem dL_law_1877 : decode cL_law 1877 = .ok (.iload 6, 2) := by decide +kernel
theorem dL_law_1879 : decode cL_law 1879 = .ok (.ifCond .ne 15, 3) := by decide +kernel
theorem dL_law_1882 : decode cL_law 1882 = .ok (.aload_n 3, 1) := by decide +kernel
theorem dL_law_1883 : decode cL_law 1883 = .ok (.iconst 0, 1) := by decide +kernel
theorem dL_law_1884 : decode cL_law 1884 = .ok (.laload, 1) := by decide +kernel
theorem dL_law_1885 : decode cL_law 1885 = .ok (.iload 7, 2) := by decide +kernel
theorem dL_law_1887 : decode cL_law 1887 = .ok (.i2l, 1) := by decide +kernel
theorem dL_law_1888 : decode cL_law 1888 = .ok (.lcmp, 1) := by decide +kernel
theorem dL_law_1889 : decode cL_law 1889 = .ok (.ifCond .eq 5, 3) := by decide +kernel
theorem dL_law_1892 : decode cL_law 1892 = .ok (.iconst 0, 1) := by decide +kernel
theorem dL_law_1893 : decode cL_law 1893 = .ok (.ireturn, 1) := by decide +kernel
theorem dL_law_1894 : decode cL_law 1894 = .ok (.goto 173, 3) := by decide +kernel
theorem dL_law_1897 : decode cL_law 1897 = .ok (.aload_n 1, 1) := by decide +kernel
theorem dL_law_1898 : decode cL_law 1898 = .ok (.invokevirtual 247, 3) := by decide +kernel
theorem dL_law_1901 : decode cL_law 1901 = .ok (.aload_n 2, 1) := by decide +kernel
theorem dL_law_1902 : decode cL_law 1902 = .ok (.invokevirtual 250, 3) := by decide +kernel
theorem dL_law_1905 : decode cL_law 1905 = .ok (.if_icmp .eq 162, 3) := by decide +kernel
theorem dL_law_1908 : decode cL_law 1908 = .ok (.iconst 0, 1) := by decide +kernel
theorem dL_law_1909 : decode cL_law 1909 = .ok (.ireturn, 1) := by decide +kernel
theorem dL_law_1910 : decode cL_law 1910 = .ok (.aload_n 1, 1) := by decide +kernel
theorem dL_law_1911 : decode cL_law 1911 = .ok (.aload_n 0, 1) := by decide +kernel
theorem dL_law_1912 : decode cL_law 1912 = .ok (.iload 5, 2) := by decide +kernel
theorem dL_law_1914 : decode cL_law 1914 = .ok (.iconst 1, 1) := by decide +kernel
theorem dL_law_1915 : decode cL_law 1915 = .ok (.iadd, 1) := by decide +kernel
theorem dL_law_1916 : decode cL_law 1916 = .ok (.iaload, 1) := by decide +kernel
theorem dL_law_1917 : decode cL_law 1917 = .ok (.aload_n 3, 1) := by decide +kernel
theorem dL_law_1918 : decode cL_law 1918 = .ok (.invokestatic 251, 3) := by decide +kernel
theorem dL_law_1921 : decode cL_law 1921 = .ok (.istore 6, 2) := by decide +kernel
theorem dL_law_1923 : decode cL_law 1923 = .ok (.aload_n 2, 1) := by decide +kernel
theorem dL_law_1924 : decode cL_law 1924 = .ok (.aload_n 0, 1) := by decide +kernel
theorem dL_law_1925 : decode cL_law 1925 = .ok (.iload 5, 2) := by decide +kernel
theorem dL_law_1927 : decode cL_law 1927 = .ok (.iconst 1, 1) := by decide +kernel
theorem dL_law_1928 : decode cL_law 1928 = .ok (.iadd, 1) := by decide +kernel
theorem dL_law_1929 : decode cL_law 1929 = .ok (.iaload, 1) := by decide +kernel
theorem dL_law_1930 : decode cL_law 1930 = .ok (.invokevirtual 253, 3) := by decide +kernel
theorem dL_law_1933 : decode cL_law 1933 = .ok (.istore 7, 2) := by decide +kernel
theorem dL_law_1935 : decode cL_law 1935 = .ok (.aload_n 2, 1) := by decide +kernel
theorem dL_law_1936 : decode cL_law 1936 = .ok (.invokevirtual 139, 3) := by decide +kernel
theorem dL_law_1939 : decode cL_law 1939 = .ok (.iload 6, 2) := by decide +kernel
theorem dL_law_1941 : decode cL_law 1941 = .ok (.if_icmp .eq 5, 3) := by decide +kernel
theorem dL_law_1944 : decode cL_law 1944 = .ok (.iconst 0, 1) := by decide +kernel
theorem dL_law_1945 : decode cL_law 1945 = .ok (.ireturn, 1) := by decide +kernel
theorem dL_law_1946 : decode cL_law 1946 = .ok (.iload 6, 2) := by decide +kernel
theorem dL_law_1948 : decode cL_law 1948 = .ok (.ifCond .ne 15, 3) := by decide +kernel
theorem dL_law_1951 : decode cL_law 1951 = .ok (.aload_n 3, 1) := by decide +kernel
theorem dL_law_1952 : decode cL_law 1952 = .ok (.iconst 0, 1) := by decide +kernel
theorem dL_law_1953 : decode cL_law 1953 = .ok (.laload, 1) := by decide +kernel
theorem dL_law_1954 : decode cL_law 1954 = .ok (.iload 7, 2) := by decide +kernel
theorem dL_law_1956 : decode cL_law 1956 = .ok (.i2l, 1) := by decide +kernel
theorem dL_law_1957 : decode cL_law 1957 = .ok (.lcmp, 1) := by decide +kernel
theorem dL_law_1958 : decode cL_law 1958 = .ok (.ifCond .eq 5, 3) := by decide +kernel
theorem dL_law_1961 : decode cL_law 1961 = .ok (.iconst 0, 1) := by decide +kernel
theorem dL_law_1962 : decode cL_law 1962 = .ok (.ireturn, 1) := by decide +kernel
theorem dL_law_1963 : decode cL_law 1963 = .ok (.goto 104, 3) := by decide +kernel
theorem dL_law_1966 : decode cL_law 1966 = .ok (.aload_n 1, 1) := by decide +kernel
theorem dL_law_1967 : decode cL_law 1967 = .ok (.aload_n 3, 1) := by decide +kernel
theorem dL_law_1968 : decode cL_law 1968 = .ok (.invokestatic 254, 3) := by decide +kernel
theorem dL_law_1971 : decode cL_law 1971 = .ok (.istore 6, 2) := by decide +kernel
theorem dL_law_1973 : decode cL_law 1973 = .ok (.aload_n 2, 1) := by decide +kernel
theorem dL_law_1974 : decode cL_law 1974 = .ok (.invokevirtual 256, 3) := by decide +kernel
theorem dL_law_1977 : decode cL_law 1977 = .ok (.istore 7, 2) := by decide +kernel
theorem dL_law_1979 : decode cL_law 1979 = .ok (.aload_n 2, 1) := by decide +kernel
theorem dL_law_1980 : decode cL_law 1980 = .ok (.invokevirtual 139, 3) := by decide +kernel
theorem dL_law_1983 : decode cL_law 1983 = .ok (.iload 6, 2) := by decide +kernel
theorem dL_law_1985 : decode cL_law 1985 = .ok (.if_icmp .eq 5, 3) := by decide +kernel
theorem dL_law_1988 : decode cL_law 1988 = .ok (.iconst 0, 1) := by decide +kernel
theorem dL_law_1989 : decode cL_law 1989 = .ok (.ireturn, 1) := by decide +kernel
theorem dL_law_1990 : decode cL_law 1990 = .ok (.iload 6, 2) := by decide +kernel
theorem dL_law_1992 : decode cL_law 1992 = .ok (.ifCond .ne 15, 3) := by decide +kernel
theorem dL_law_1995 : decode cL_law 1995 = .ok (.aload_n 3, 1) := by decide +kernel
theorem dL_law_1996 : decode cL_law 1996 = .ok (.iconst 0, 1) := by decide +kernel
theorem dL_law_1997 : decode cL_law 1997 = .ok (.laload, 1) := by decide +kernel
theorem dL_law_1998 : decode cL_law 1998 = .ok (.iload 7, 2) := by decide +kernel
theorem dL_law_2000 : decode cL_law 2000 = .ok (.i2l, 1) := by decide +kernel
theorem dL_law_2001 : decode cL_law 2001 = .ok (.lcmp, 1) := by decide +kernel
theorem dL_law_2002 : decode cL_law 2002 = .ok (.ifCond .eq 5, 3) := by decide +kernel
theorem dL_law_2005 : decode cL_law 2005 = .ok (.iconst 0, 1) := by decide +kernel
theorem dL_law_2006 : decode cL_law 2006 = .ok (.ireturn, 1) := by decide +kernel
theorem dL_law_2007 : decode cL_law 2007 = .ok (.goto 60, 3) := by decide +kernel
theorem dL_law_2010 : decode cL_law 2010 = .ok (.aload_n 1, 1) := by decide +kernel
theorem dL_law_2011 : decode cL_law 2011 = .ok (.invokevirtual 257, 3) := by decide +kernel
theorem dL_law_2014 : decode cL_law 2014 = .ok (.aload_n 2, 1) := by decide +kernel
theorem dL_law_2015 : decode cL_law 2015 = .ok (.invokevirtual 260, 3) := by decide +kernel
theorem dL_law_2018 : decode cL_law 2018 = .ok (.if_icmp .eq 49, 3) := by decide +kernel
theorem dL_law_2021 : decode cL_law 2021 = .ok (.iconst 0, 1) := by decide +kernel
theorem dL_law_2022 : decode cL_law 2022 = .ok (.ireturn, 1) := by decide +kernel
theorem dL_law_2023 : decode cL_law 2023 = .ok (.aload_n 1, 1) := by decide +kernel
theorem dL_law_2024 : decode cL_law 2024 = .ok (.aload_n 3, 1) := by decide +kernel
theorem dL_law_2025 : decode cL_law 2025 = .ok (.invokestatic 261, 3) := by decide +kernel
theorem dL_law_2028 : decode cL_law 2028 = .ok (.istore 6, 2) := by decide +kernel
theorem dL_law_2030 : decode cL_law 2030 = .ok (.aload_n 2, 1) := by decide +kernel
theorem dL_law_2031 : decode cL_law 2031 = .ok (.invokevirtual 263, 3) := by decide +kernel
theorem dL_law_2034 : decode cL_law 2034 = .ok (.istore 7, 2) := by decide +kernel
theorem dL_law_2036 : decode cL_law 2036 = .ok (.aload_n 2, 1) := by decide +kernel
theorem dL_law_2037 : decode cL_law 2037 = .ok (.invokevirtual 139, 3) := by decide +kernel
theorem dL_law_2040 : decode cL_law 2040 = .ok (.iload 6, 2) := by decide +kernel
theorem dL_law_2042 : decode cL_law 2042 = .ok (.if_icmp .eq 5, 3) := by decide +kernel
theorem dL_law_2045 : decode cL_law 2045 = .ok (.iconst 0, 1) := by decide +kernel
theorem dL_law_2046 : decode cL_law 2046 = .ok (.ireturn, 1) := by decide +kernel
theorem dL_law_2047 : decode cL_law 2047 = .ok (.iload 6, 2) := by decide +kernel
theorem dL_law_2049 : decode cL_law 2049 = .ok (.ifCond .ne 15, 3) := by decide +kernel
theorem dL_law_2052 : decode cL_law 2052 = .ok (.aload_n 3, 1) := by decide +kernel
theorem dL_law_2053 : decode cL_law 2053 = .ok (.iconst 0, 1) := by decide +kernel
theorem dL_law_2054 : decode cL_law 2054 = .ok (.laload, 1) := by decide +kernel
theorem dL_law_2055 : decode cL_law 2055 = .ok (.iload 7, 2) := by decide +kernel
theorem dL_law_2057 : decode cL_law 2057 = .ok (.i2l, 1) := by decide +kernel
theorem dL_law_2058 : decode cL_law 2058 = .ok (.lcmp, 1) := by decide +kernel
theorem dL_law_2059 : decode cL_law 2059 = .ok (.ifCond .eq 5, 3) := by decide +kernel
theorem dL_law_2062 : decode cL_law 2062 = .ok (.iconst 0, 1) := by decide +kernel
theorem dL_law_2063 : decode cL_law 2063 = .ok (.ireturn, 1) := by decide +kernel
theorem dL_law_2064 : decode cL_law 2064 = .ok (.goto 3, 3) := by decide +kernel
theorem dL_law_2067 : decode cL_law 2067 = .ok (.iinc 5 3, 3) := by decide +kernel
theorem dL_law_2070 : decode cL_law 2070 = .ok (.goto (-2042), 3) := by decide +kernel
theorem dL_law_2073 : decode cL_law 2073 = .ok (.iconst 1, 1) := by decide +kernel
theorem dL_law_2074 : decode cL_law 2074 = .ok (.ireturn, 1) := by decide +kernel
end
section
theorem dX0_init_0 : decode cX0_init 0 = .ok (.aload_n 0, 1) := by decide +kernel
theorem dX0_init_1 : decode cX0_init 1 = .ok (.invokespecial 3, 3) := by decide +kernel
theorem dX0_init_4 : decode cX0_init 4 = .ok (.aload_n 0, 1) := by decide +kernel
theorem dX0_init_5 : decode cX0_init 5 = .ok (.sipush 2048, 3) := by decide +kernel
theorem dX0_init_8 : decode cX0_init 8 = .ok (.newarray .boolean, 2) := by decide +kernel
theorem dX0_init_10 : decode cX0_init 10 = .ok (.putfield 9, 3) := by decide +kernel
theorem dX0_init_13 : decode cX0_init 13 = .ok (.aload_n 0, 1) := by decide +kernel
theorem dX0_init_14 : decode cX0_init 14 = .ok (.iconst 0, 1) := by decide +kernel
theorem dX0_init_15 : decode cX0_init 15 = .ok (.putfield 15, 3) := by decide +kernel
theorem dX0_init_18 : decode cX0_init 18 = .ok (.aload_n 0, 1) := by decide +kernel
theorem dX0_init_19 : decode cX0_init 19 = .ok (.iconst 0, 1) := by decide +kernel
theorem dX0_init_20 : decode cX0_init 20 = .ok (.putfield 19, 3) := by decide +kernel
theorem dX0_init_23 : decode cX0_init 23 = .ok (.aload_n 0, 1) := by decide +kernel
theorem dX0_init_24 : decode cX0_init 24 = .ok (.aload_n 1, 1) := by decide +kernel
theorem dX0_init_25 : decode cX0_init 25 = .ok (.putfield 22, 3) := by decide +kernel
theorem dX0_init_28 : decode cX0_init 28 = .ok (.aload_n 0, 1) := by decide +kernel
theorem dX0_init_29 : decode cX0_init 29 = .ok (.aload_n 2, 1) := by decide +kernel
theorem dX0_init_30 : decode cX0_init 30 = .ok (.putfield 26, 3) := by decide +kernel
theorem dX0_init_33 : decode cX0_init 33 = .ok (.return_, 1) := by decide +kernel
theorem dX0_numberAt_0 : decode cX0_numberAt 0 = .ok (.aload_n 0, 1) := by decide +kernel
theorem dX0_numberAt_1 : decode cX0_numberAt 1 = .ok (.invokevirtual 30, 3) := by decide +kernel
theorem dX0_numberAt_4 : decode cX0_numberAt 4 = .ok (.iconst 0, 1) := by decide +kernel
theorem dX0_numberAt_5 : decode cX0_numberAt 5 = .ok (.istore_n 2, 1) := by decide +kernel
theorem dX0_numberAt_6 : decode cX0_numberAt 6 = .ok (.iload_n 2, 1) := by decide +kernel
theorem dX0_numberAt_7 : decode cX0_numberAt 7 = .ok (.iload_n 1, 1) := by decide +kernel
theorem dX0_numberAt_8 : decode cX0_numberAt 8 = .ok (.if_icmp .ge 25, 3) := by decide +kernel
theorem dX0_numberAt_11 : decode cX0_numberAt 11 = .ok (.iload_n 2, 1) := by decide +kernel
theorem dX0_numberAt_12 : decode cX0_numberAt 12 = .ok (.aload_n 0, 1) := by decide +kernel
theorem dX0_numberAt_13 : decode cX0_numberAt 13 = .ok (.getfield 22, 3) := by decide +kernel
theorem dX0_numberAt_16 : decode cX0_numberAt 16 = .ok (.invokevirtual 33, 3) := by decide +kernel
theorem dX0_numberAt_19 : decode cX0_numberAt 19 = .ok (.if_icmp .ge 14, 3) := by decide +kernel
theorem dX0_numberAt_22 : decode cX0_numberAt 22 = .ok (.aload_n 0, 1) := by decide +kernel
theorem dX0_numberAt_23 : decode cX0_numberAt 23 = .ok (.iload_n 2, 1) := by decide +kernel
theorem dX0_numberAt_24 : decode cX0_numberAt 24 = .ok (.invokevirtual 39, 3) := by decide +kernel
theorem dX0_numberAt_27 : decode cX0_numberAt 27 = .ok (.iinc 2 1, 3) := by decide +kernel
theorem dX0_numberAt_30 : decode cX0_numberAt 30 = .ok (.goto (-24), 3) := by decide +kernel
theorem dX0_numberAt_33 : decode cX0_numberAt 33 = .ok (.iconst 0, 1) := by decide +kernel
theorem dX0_numberAt_34 : decode cX0_numberAt 34 = .ok (.istore_n 2, 1) := by decide +kernel
theorem dX0_numberAt_35 : decode cX0_numberAt 35 = .ok (.aload_n 0, 1) := by decide +kernel
theorem dX0_numberAt_36 : decode cX0_numberAt 36 = .ok (.getfield 15, 3) := by decide +kernel
theorem dX0_numberAt_39 : decode cX0_numberAt 39 = .ok (.istore_n 3, 1) := by decide +kernel
theorem dX0_numberAt_40 : decode cX0_numberAt 40 = .ok (.iload_n 3, 1) := by decide +kernel
theorem dX0_numberAt_41 : decode cX0_numberAt 41 = .ok (.aload_n 0, 1) := by decide +kernel
theorem dX0_numberAt_42 : decode cX0_numberAt 42 = .ok (.getfield 19, 3) := by decide +kernel
theorem dX0_numberAt_45 : decode cX0_numberAt 45 = .ok (.if_icmp .gt 21, 3) := by decide +kernel
theorem dX0_numberAt_48 : decode cX0_numberAt 48 = .ok (.aload_n 0, 1) := by decide +kernel
theorem dX0_numberAt_49 : decode cX0_numberAt 49 = .ok (.getfield 9, 3) := by decide +kernel
theorem dX0_numberAt_52 : decode cX0_numberAt 52 = .ok (.iload_n 3, 1) := by decide +kernel
theorem dX0_numberAt_53 : decode cX0_numberAt 53 = .ok (.baload, 1) := by decide +kernel
theorem dX0_numberAt_54 : decode cX0_numberAt 54 = .ok (.ifCond .eq 6, 3) := by decide +kernel
theorem dX0_numberAt_57 : decode cX0_numberAt 57 = .ok (.iinc 2 1, 3) := by decide +kernel
theorem dX0_numberAt_60 : decode cX0_numberAt 60 = .ok (.iinc 3 1, 3) := by decide +kernel
theorem dX0_numberAt_63 : decode cX0_numberAt 63 = .ok (.goto (-23), 3) := by decide +kernel
theorem dX0_numberAt_66 : decode cX0_numberAt 66 = .ok (.iload_n 2, 1) := by decide +kernel
theorem dX0_numberAt_67 : decode cX0_numberAt 67 = .ok (.ireturn, 1) := by decide +kernel
theorem dX0_startWithZero_0 : decode cX0_startWithZero 0 = .ok (.aload_n 0, 1) := by decide +kernel
theorem dX0_startWithZero_1 : decode cX0_startWithZero 1 = .ok (.getfield 15, 3) := by decide +kernel
theorem dX0_startWithZero_4 : decode cX0_startWithZero 4 = .ok (.istore_n 1, 1) := by decide +kernel
theorem dX0_startWithZero_5 : decode cX0_startWithZero 5 = .ok (.iload_n 1, 1) := by decide +kernel
theorem dX0_startWithZero_6 : decode cX0_startWithZero 6 = .ok (.aload_n 0, 1) := by decide +kernel
theorem dX0_startWithZero_7 : decode cX0_startWithZero 7 = .ok (.getfield 19, 3) := by decide +kernel
theorem dX0_startWithZero_10 : decode cX0_startWithZero 10 = .ok (.if_icmp .gt 16, 3) := by decide +kernel
theorem dX0_startWithZero_13 : decode cX0_startWithZero 13 = .ok (.aload_n 0, 1) := by decide +kernel
theorem dX0_startWithZero_14 : decode cX0_startWithZero 14 = .ok (.getfield 9, 3) := by decide +kernel
theorem dX0_startWithZero_17 : decode cX0_startWithZero 17 = .ok (.iload_n 1, 1) := by decide +kernel
theorem dX0_startWithZero_18 : decode cX0_startWithZero 18 = .ok (.iconst 0, 1) := by decide +kernel
theorem dX0_startWithZero_19 : decode cX0_startWithZero 19 = .ok (.bastore, 1) := by decide +kernel
theorem dX0_startWithZero_20 : decode cX0_startWithZero 20 = .ok (.iinc 1 1, 3) := by decide +kernel
theorem dX0_startWithZero_23 : decode cX0_startWithZero 23 = .ok (.goto (-18), 3) := by decide +kernel
theorem dX0_startWithZero_26 : decode cX0_startWithZero 26 = .ok (.aload_n 0, 1) := by decide +kernel
theorem dX0_startWithZero_27 : decode cX0_startWithZero 27 = .ok (.getfield 9, 3) := by decide +kernel
theorem dX0_startWithZero_30 : decode cX0_startWithZero 30 = .ok (.iconst 0, 1) := by decide +kernel
theorem dX0_startWithZero_31 : decode cX0_startWithZero 31 = .ok (.iconst 1, 1) := by decide +kernel
theorem dX0_startWithZero_32 : decode cX0_startWithZero 32 = .ok (.bastore, 1) := by decide +kernel
theorem dX0_startWithZero_33 : decode cX0_startWithZero 33 = .ok (.aload_n 0, 1) := by decide +kernel
theorem dX0_startWithZero_34 : decode cX0_startWithZero 34 = .ok (.iconst 0, 1) := by decide +kernel
theorem dX0_startWithZero_35 : decode cX0_startWithZero 35 = .ok (.putfield 15, 3) := by decide +kernel
theorem dX0_startWithZero_38 : decode cX0_startWithZero 38 = .ok (.aload_n 0, 1) := by decide +kernel
theorem dX0_startWithZero_39 : decode cX0_startWithZero 39 = .ok (.iconst 0, 1) := by decide +kernel
theorem dX0_startWithZero_40 : decode cX0_startWithZero 40 = .ok (.putfield 19, 3) := by decide +kernel
theorem dX0_startWithZero_43 : decode cX0_startWithZero 43 = .ok (.return_, 1) := by decide +kernel
theorem dX0_passItem_0 : decode cX0_passItem 0 = .ok (.aload_n 0, 1) := by decide +kernel
theorem dX0_passItem_1 : decode cX0_passItem 1 = .ok (.getfield 19, 3) := by decide +kernel
theorem dX0_passItem_4 : decode cX0_passItem 4 = .ok (.istore_n 2, 1) := by decide +kernel
theorem dX0_passItem_5 : decode cX0_passItem 5 = .ok (.aload_n 0, 1) := by decide +kernel
theorem dX0_passItem_6 : decode cX0_passItem 6 = .ok (.getfield 15, 3) := by decide +kernel
theorem dX0_passItem_9 : decode cX0_passItem 9 = .ok (.istore_n 3, 1) := by decide +kernel
theorem dX0_passItem_10 : decode cX0_passItem 10 = .ok (.aload_n 0, 1) := by decide +kernel
theorem dX0_passItem_11 : decode cX0_passItem 11 = .ok (.getfield 22, 3) := by decide +kernel
theorem dX0_passItem_14 : decode cX0_passItem 14 = .ok (.iload_n 1, 1) := by decide +kernel
theorem dX0_passItem_15 : decode cX0_passItem 15 = .ok (.invokevirtual 43, 3) := by decide +kernel
theorem dX0_passItem_18 : decode cX0_passItem 18 = .ok (.ifCond .eq 7, 3) := by decide +kernel
theorem dX0_passItem_21 : decode cX0_passItem 21 = .ok (.iconst 2, 1) := by decide +kernel
theorem dX0_passItem_22 : decode cX0_passItem 22 = .ok (.goto 4, 3) := by decide +kernel
theorem dX0_passItem_25 : decode cX0_passItem 25 = .ok (.iconst 0, 1) := by decide +kernel
theorem dX0_passItem_26 : decode cX0_passItem 26 = .ok (.istore 4, 2) := by decide +kernel
theorem dX0_passItem_28 : decode cX0_passItem 28 = .ok (.aload_n 0, 1) := by decide +kernel
theorem dX0_passItem_29 : decode cX0_passItem 29 = .ok (.sipush 2047, 3) := by decide +kernel
theorem dX0_passItem_32 : decode cX0_passItem 32 = .ok (.putfield 15, 3) := by decide +kernel
theorem dX0_passItem_35 : decode cX0_passItem 35 = .ok (.aload_n 0, 1) := by decide +kernel
theorem dX0_passItem_36 : decode cX0_passItem 36 = .ok (.iconst 0, 1) := by decide +kernel
theorem dX0_passItem_37 : decode cX0_passItem 37 = .ok (.putfield 19, 3) := by decide +kernel
theorem dX0_passItem_40 : decode cX0_passItem 40 = .ok (.iload_n 2, 1) := by decide +kernel
theorem dX0_passItem_41 : decode cX0_passItem 41 = .ok (.istore 5, 2) := by decide +kernel
theorem dX0_passItem_43 : decode cX0_passItem 43 = .ok (.iload 5, 2) := by decide +kernel
theorem dX0_passItem_45 : decode cX0_passItem 45 = .ok (.iload_n 3, 1) := by decide +kernel
theorem dX0_passItem_46 : decode cX0_passItem 46 = .ok (.if_icmp .lt 62, 3) := by decide +kernel
theorem dX0_passItem_49 : decode cX0_passItem 49 = .ok (.aload_n 0, 1) := by decide +kernel
theorem dX0_passItem_50 : decode cX0_passItem 50 = .ok (.getfield 9, 3) := by decide +kernel
theorem dX0_passItem_53 : decode cX0_passItem 53 = .ok (.iload 5, 2) := by decide +kernel
theorem dX0_passItem_55 : decode cX0_passItem 55 = .ok (.baload, 1) := by decide +kernel
theorem dX0_passItem_56 : decode cX0_passItem 56 = .ok (.ifCond .eq 46, 3) := by decide +kernel
theorem dX0_passItem_59 : decode cX0_passItem 59 = .ok (.aload_n 0, 1) := by decide +kernel
theorem dX0_passItem_60 : decode cX0_passItem 60 = .ok (.getfield 9, 3) := by decide +kernel
theorem dX0_passItem_63 : decode cX0_passItem 63 = .ok (.iload 5, 2) := by decide +kernel
theorem dX0_passItem_65 : decode cX0_passItem 65 = .ok (.iconst 0, 1) := by decide +kernel
theorem dX0_passItem_66 : decode cX0_passItem 66 = .ok (.bastore, 1) := by decide +kernel
theorem dX0_passItem_67 : decode cX0_passItem 67 = .ok (.iconst 0, 1) := by decide +kernel
theorem dX0_passItem_68 : decode cX0_passItem 68 = .ok (.istore 6, 2) := by decide +kernel
theorem dX0_passItem_70 : decode cX0_passItem 70 = .ok (.iload 6, 2) := by decide +kernel
theorem dX0_passItem_72 : decode cX0_passItem 72 = .ok (.iload 4, 2) := by decide +kernel
theorem dX0_passItem_74 : decode cX0_passItem 74 = .ok (.if_icmp .gt 28, 3) := by decide +kernel
theorem dX0_passItem_77 : decode cX0_passItem 77 = .ok (.aload_n 0, 1) := by decide +kernel
theorem dX0_passItem_78 : decode cX0_passItem 78 = .ok (.iload 5, 2) := by decide +kernel
theorem dX0_passItem_80 : decode cX0_passItem 80 = .ok (.aload_n 0, 1) := by decide +kernel
theorem dX0_passItem_81 : decode cX0_passItem 81 = .ok (.getfield 26, 3) := by decide +kernel
theorem dX0_passItem_84 : decode cX0_passItem 84 = .ok (.iload_n 1, 1) := by decide +kernel
theorem dX0_passItem_85 : decode cX0_passItem 85 = .ok (.iload 6, 2) := by decide +kernel
theorem dX0_passItem_87 : decode cX0_passItem 87 = .ok (.iload 5, 2) := by decide +kernel
theorem dX0_passItem_89 : decode cX0_passItem 89 = .ok (.invokevirtual 47, 3) := by decide +kernel
theorem dX0_passItem_92 : decode cX0_passItem 92 = .ok (.iadd, 1) := by decide +kernel
theorem dX0_passItem_93 : decode cX0_passItem 93 = .ok (.invokevirtual 53, 3) := by decide +kernel
theorem dX0_passItem_96 : decode cX0_passItem 96 = .ok (.iinc 6 1, 3) := by decide +kernel
theorem dX0_passItem_99 : decode cX0_passItem 99 = .ok (.goto (-29), 3) := by decide +kernel
theorem dX0_passItem_102 : decode cX0_passItem 102 = .ok (.iinc 5 (-1), 3) := by decide +kernel
theorem dX0_passItem_105 : decode cX0_passItem 105 = .ok (.goto (-62), 3) := by decide +kernel
theorem dX0_passItem_108 : decode cX0_passItem 108 = .ok (.return_, 1) := by decide +kernel
theorem dX0_hold_0 : decode cX0_hold 0 = .ok (.iload_n 1, 1) := by decide +kernel
theorem dX0_hold_1 : decode cX0_hold 1 = .ok (.ifCond .lt 41, 3) := by decide +kernel
theorem dX0_hold_4 : decode cX0_hold 4 = .ok (.iload_n 1, 1) := by decide +kernel
theorem dX0_hold_5 : decode cX0_hold 5 = .ok (.sipush 2048, 3) := by decide +kernel
theorem dX0_hold_8 : decode cX0_hold 8 = .ok (.if_icmp .ge 34, 3) := by decide +kernel
theorem dX0_hold_11 : decode cX0_hold 11 = .ok (.aload_n 0, 1) := by decide +kernel
theorem dX0_hold_12 : decode cX0_hold 12 = .ok (.getfield 9, 3) := by decide +kernel
theorem dX0_hold_15 : decode cX0_hold 15 = .ok (.iload_n 1, 1) := by decide +kernel
theorem dX0_hold_16 : decode cX0_hold 16 = .ok (.iconst 1, 1) := by decide +kernel
theorem dX0_hold_17 : decode cX0_hold 17 = .ok (.bastore, 1) := by decide +kernel
theorem dX0_hold_18 : decode cX0_hold 18 = .ok (.aload_n 0, 1) := by decide +kernel
theorem dX0_hold_19 : decode cX0_hold 19 = .ok (.aload_n 0, 1) := by decide +kernel
theorem dX0_hold_20 : decode cX0_hold 20 = .ok (.getfield 15, 3) := by decide +kernel
theorem dX0_hold_23 : decode cX0_hold 23 = .ok (.iload_n 1, 1) := by decide +kernel
theorem dX0_hold_24 : decode cX0_hold 24 = .ok (.invokestatic 56, 3) := by decide +kernel
theorem dX0_hold_27 : decode cX0_hold 27 = .ok (.putfield 15, 3) := by decide +kernel
theorem dX0_hold_30 : decode cX0_hold 30 = .ok (.aload_n 0, 1) := by decide +kernel
theorem dX0_hold_31 : decode cX0_hold 31 = .ok (.aload_n 0, 1) := by decide +kernel
theorem dX0_hold_32 : decode cX0_hold 32 = .ok (.getfield 19, 3) := by decide +kernel
theorem dX0_hold_35 : decode cX0_hold 35 = .ok (.iload_n 1, 1) := by decide +kernel
theorem dX0_hold_36 : decode cX0_hold 36 = .ok (.invokestatic 62, 3) := by decide +kernel
theorem dX0_hold_39 : decode cX0_hold 39 = .ok (.putfield 19, 3) := by decide +kernel
theorem dX0_hold_42 : decode cX0_hold 42 = .ok (.return_, 1) := by decide +kernel
end
section
theorem dX1_init_0 : decode cX1_init 0 = .ok (.aload_n 0, 1) := by decide +kernel
theorem dX1_init_1 : decode cX1_init 1 = .ok (.invokespecial 3, 3) := by decide +kernel
theorem dX1_init_4 : decode cX1_init 4 = .ok (.aload_n 0, 1) := by decide +kernel
theorem dX1_init_5 : decode cX1_init 5 = .ok (.bipush 41, 2) := by decide +kernel
theorem dX1_init_7 : decode cX1_init 7 = .ok (.newarray .int, 2) := by decide +kernel
theorem dX1_init_9 : decode cX1_init 9 = .ok (.putfield 9, 3) := by decide +kernel
theorem dX1_init_12 : decode cX1_init 12 = .ok (.aload_n 0, 1) := by decide +kernel
theorem dX1_init_13 : decode cX1_init 13 = .ok (.bipush 40, 2) := by decide +kernel
theorem dX1_init_15 : decode cX1_init 15 = .ok (.newarray .int, 2) := by decide +kernel
theorem dX1_init_17 : decode cX1_init 17 = .ok (.putfield 15, 3) := by decide +kernel
theorem dX1_init_20 : decode cX1_init 20 = .ok (.aload_n 0, 1) := by decide +kernel
theorem dX1_init_21 : decode cX1_init 21 = .ok (.bipush 40, 2) := by decide +kernel
theorem dX1_init_23 : decode cX1_init 23 = .ok (.newarray .int, 2) := by decide +kernel
theorem dX1_init_25 : decode cX1_init 25 = .ok (.putfield 18, 3) := by decide +kernel
theorem dX1_init_28 : decode cX1_init 28 = .ok (.aload_n 0, 1) := by decide +kernel
theorem dX1_init_29 : decode cX1_init 29 = .ok (.iconst 0, 1) := by decide +kernel
theorem dX1_init_30 : decode cX1_init 30 = .ok (.putfield 21, 3) := by decide +kernel
theorem dX1_init_33 : decode cX1_init 33 = .ok (.aload_n 0, 1) := by decide +kernel
theorem dX1_init_34 : decode cX1_init 34 = .ok (.iconst 0, 1) := by decide +kernel
theorem dX1_init_35 : decode cX1_init 35 = .ok (.putfield 25, 3) := by decide +kernel
theorem dX1_init_38 : decode cX1_init 38 = .ok (.aload_n 0, 1) := by decide +kernel
theorem dX1_init_39 : decode cX1_init 39 = .ok (.aload_n 1, 1) := by decide +kernel
theorem dX1_init_40 : decode cX1_init 40 = .ok (.putfield 28, 3) := by decide +kernel
theorem dX1_init_43 : decode cX1_init 43 = .ok (.aload_n 0, 1) := by decide +kernel
theorem dX1_init_44 : decode cX1_init 44 = .ok (.aload_n 2, 1) := by decide +kernel
theorem dX1_init_45 : decode cX1_init 45 = .ok (.putfield 32, 3) := by decide +kernel
theorem dX1_init_48 : decode cX1_init 48 = .ok (.aload_n 0, 1) := by decide +kernel
theorem dX1_init_49 : decode cX1_init 49 = .ok (.aload_n 3, 1) := by decide +kernel
theorem dX1_init_50 : decode cX1_init 50 = .ok (.putfield 36, 3) := by decide +kernel
theorem dX1_init_53 : decode cX1_init 53 = .ok (.return_, 1) := by decide +kernel
theorem dX1_choicesFound_0 : decode cX1_choicesFound 0 = .ok (.aload_n 0, 1) := by decide +kernel
theorem dX1_choicesFound_1 : decode cX1_choicesFound 1 = .ok (.getfield 21, 3) := by decide +kernel
theorem dX1_choicesFound_4 : decode cX1_choicesFound 4 = .ok (.ireturn, 1) := by decide +kernel
theorem dX1_least_0 : decode cX1_least 0 = .ok (.aload_n 0, 1) := by decide +kernel
theorem dX1_least_1 : decode cX1_least 1 = .ok (.getfield 25, 3) := by decide +kernel
theorem dX1_least_4 : decode cX1_least 4 = .ok (.ireturn, 1) := by decide +kernel
theorem dX1_takeBest_0 : decode cX1_takeBest 0 = .ok (.iconst 0, 1) := by decide +kernel
theorem dX1_takeBest_1 : decode cX1_takeBest 1 = .ok (.istore_n 1, 1) := by decide +kernel
theorem dX1_takeBest_2 : decode cX1_takeBest 2 = .ok (.iload_n 1, 1) := by decide +kernel
theorem dX1_takeBest_3 : decode cX1_takeBest 3 = .ok (.aload_n 0, 1) := by decide +kernel
theorem dX1_takeBest_4 : decode cX1_takeBest 4 = .ok (.getfield 28, 3) := by decide +kernel
theorem dX1_takeBest_7 : decode cX1_takeBest 7 = .ok (.invokevirtual 40, 3) := by decide +kernel
theorem dX1_takeBest_10 : decode cX1_takeBest 10 = .ok (.if_icmp .ge 23, 3) := by decide +kernel
theorem dX1_takeBest_13 : decode cX1_takeBest 13 = .ok (.aload_n 0, 1) := by decide +kernel
theorem dX1_takeBest_14 : decode cX1_takeBest 14 = .ok (.getfield 28, 3) := by decide +kernel
theorem dX1_takeBest_17 : decode cX1_takeBest 17 = .ok (.iload_n 1, 1) := by decide +kernel
theorem dX1_takeBest_18 : decode cX1_takeBest 18 = .ok (.aload_n 0, 1) := by decide +kernel
theorem dX1_takeBest_19 : decode cX1_takeBest 19 = .ok (.getfield 18, 3) := by decide +kernel
theorem dX1_takeBest_22 : decode cX1_takeBest 22 = .ok (.iload_n 1, 1) := by decide +kernel
theorem dX1_takeBest_23 : decode cX1_takeBest 23 = .ok (.iaload, 1) := by decide +kernel
theorem dX1_takeBest_24 : decode cX1_takeBest 24 = .ok (.invokevirtual 46, 3) := by decide +kernel
theorem dX1_takeBest_27 : decode cX1_takeBest 27 = .ok (.iinc 1 1, 3) := by decide +kernel
theorem dX1_takeBest_30 : decode cX1_takeBest 30 = .ok (.goto (-28), 3) := by decide +kernel
theorem dX1_takeBest_33 : decode cX1_takeBest 33 = .ok (.return_, 1) := by decide +kernel
theorem dX1_run_0 : decode cX1_run 0 = .ok (.aload_n 0, 1) := by decide +kernel
theorem dX1_run_1 : decode cX1_run 1 = .ok (.iconst 0, 1) := by decide +kernel
theorem dX1_run_2 : decode cX1_run 2 = .ok (.putfield 21, 3) := by decide +kernel
theorem dX1_run_5 : decode cX1_run 5 = .ok (.aload_n 0, 1) := by decide +kernel
theorem dX1_run_6 : decode cX1_run 6 = .ok (.iconst 0, 1) := by decide +kernel
theorem dX1_run_7 : decode cX1_run 7 = .ok (.putfield 25, 3) := by decide +kernel
theorem dX1_run_10 : decode cX1_run 10 = .ok (.aload_n 0, 1) := by decide +kernel
theorem dX1_run_11 : decode cX1_run 11 = .ok (.getfield 15, 3) := by decide +kernel
theorem dX1_run_14 : decode cX1_run 14 = .ok (.iconst 0, 1) := by decide +kernel
theorem dX1_run_15 : decode cX1_run 15 = .ok (.invokestatic 50, 3) := by decide +kernel
theorem dX1_run_18 : decode cX1_run 18 = .ok (.aload_n 0, 1) := by decide +kernel
theorem dX1_run_19 : decode cX1_run 19 = .ok (.getfield 18, 3) := by decide +kernel
theorem dX1_run_22 : decode cX1_run 22 = .ok (.iconst 0, 1) := by decide +kernel
theorem dX1_run_23 : decode cX1_run 23 = .ok (.invokestatic 50, 3) := by decide +kernel
theorem dX1_run_26 : decode cX1_run 26 = .ok (.aload_n 0, 1) := by decide +kernel
theorem dX1_run_27 : decode cX1_run 27 = .ok (.iconst 0, 1) := by decide +kernel
theorem dX1_run_28 : decode cX1_run 28 = .ok (.iconst 0, 1) := by decide +kernel
theorem dX1_run_29 : decode cX1_run 29 = .ok (.iconst 0, 1) := by decide +kernel
theorem dX1_run_30 : decode cX1_run 30 = .ok (.invokevirtual 56, 3) := by decide +kernel
theorem dX1_run_33 : decode cX1_run 33 = .ok (.return_, 1) := by decide +kernel
theorem dX1_tryFrom_0 : decode cX1_tryFrom 0 = .ok (.iload_n 3, 1) := by decide +kernel
theorem dX1_tryFrom_1 : decode cX1_tryFrom 1 = .ok (.bipush 8, 2) := by decide +kernel
theorem dX1_tryFrom_3 : decode cX1_tryFrom 3 = .ok (.if_icmp .le 4, 3) := by decide +kernel
theorem dX1_tryFrom_6 : decode cX1_tryFrom 6 = .ok (.return_, 1) := by decide +kernel
theorem dX1_tryFrom_7 : decode cX1_tryFrom 7 = .ok (.aload_n 0, 1) := by decide +kernel
theorem dX1_tryFrom_8 : decode cX1_tryFrom 8 = .ok (.iload_n 1, 1) := by decide +kernel
theorem dX1_tryFrom_9 : decode cX1_tryFrom 9 = .ok (.iload_n 2, 1) := by decide +kernel
theorem dX1_tryFrom_10 : decode cX1_tryFrom 10 = .ok (.invokevirtual 60, 3) := by decide +kernel
theorem dX1_tryFrom_13 : decode cX1_tryFrom 13 = .ok (.istore 4, 2) := by decide +kernel
theorem dX1_tryFrom_15 : decode cX1_tryFrom 15 = .ok (.iload 4, 2) := by decide +kernel
theorem dX1_tryFrom_17 : decode cX1_tryFrom 17 = .ok (.aload_n 0, 1) := by decide +kernel
theorem dX1_tryFrom_18 : decode cX1_tryFrom 18 = .ok (.getfield 28, 3) := by decide +kernel
theorem dX1_tryFrom_21 : decode cX1_tryFrom 21 = .ok (.invokevirtual 40, 3) := by decide +kernel
theorem dX1_tryFrom_24 : decode cX1_tryFrom 24 = .ok (.if_icmp .ne 17, 3) := by decide +kernel
theorem dX1_tryFrom_27 : decode cX1_tryFrom 27 = .ok (.aload_n 0, 1) := by decide +kernel
theorem dX1_tryFrom_28 : decode cX1_tryFrom 28 = .ok (.aload_n 0, 1) := by decide +kernel
theorem dX1_tryFrom_29 : decode cX1_tryFrom 29 = .ok (.getfield 9, 3) := by decide +kernel
theorem dX1_tryFrom_32 : decode cX1_tryFrom 32 = .ok (.iload 4, 2) := by decide +kernel
theorem dX1_tryFrom_34 : decode cX1_tryFrom 34 = .ok (.iaload, 1) := by decide +kernel
theorem dX1_tryFrom_35 : decode cX1_tryFrom 35 = .ok (.invokevirtual 64, 3) := by decide +kernel
theorem dX1_tryFrom_38 : decode cX1_tryFrom 38 = .ok (.goto 16, 3) := by decide +kernel
theorem dX1_tryFrom_41 : decode cX1_tryFrom 41 = .ok (.iload 4, 2) := by decide +kernel
theorem dX1_tryFrom_43 : decode cX1_tryFrom 43 = .ok (.iconst (-1), 1) := by decide +kernel
theorem dX1_tryFrom_44 : decode cX1_tryFrom 44 = .ok (.if_icmp .eq 10, 3) := by decide +kernel
theorem dX1_tryFrom_47 : decode cX1_tryFrom 47 = .ok (.aload_n 0, 1) := by decide +kernel
theorem dX1_tryFrom_48 : decode cX1_tryFrom 48 = .ok (.iload 4, 2) := by decide +kernel
theorem dX1_tryFrom_50 : decode cX1_tryFrom 50 = .ok (.iload_n 3, 1) := by decide +kernel
theorem dX1_tryFrom_51 : decode cX1_tryFrom 51 = .ok (.invokevirtual 68, 3) := by decide +kernel
theorem dX1_tryFrom_54 : decode cX1_tryFrom 54 = .ok (.return_, 1) := by decide +kernel
theorem dX1_tryForms_0 : decode cX1_tryForms 0 = .ok (.aload_n 0, 1) := by decide +kernel
theorem dX1_tryForms_1 : decode cX1_tryForms 1 = .ok (.getfield 9, 3) := by decide +kernel
theorem dX1_tryForms_4 : decode cX1_tryForms 4 = .ok (.iload_n 1, 1) := by decide +kernel
theorem dX1_tryForms_5 : decode cX1_tryForms 5 = .ok (.iaload, 1) := by decide +kernel
theorem dX1_tryForms_6 : decode cX1_tryForms 6 = .ok (.istore_n 3, 1) := by decide +kernel
theorem dX1_tryForms_7 : decode cX1_tryForms 7 = .ok (.iconst 0, 1) := by decide +kernel
theorem dX1_tryForms_8 : decode cX1_tryForms 8 = .ok (.istore 4, 2) := by decide +kernel
theorem dX1_tryForms_10 : decode cX1_tryForms 10 = .ok (.iload 4, 2) := by decide +kernel
theorem dX1_tryForms_12 : decode cX1_tryForms 12 = .ok (.iconst 2, 1) := by decide +kernel
theorem dX1_tryForms_13 : decode cX1_tryForms 13 = .ok (.if_icmp .gt 56, 3) := by decide +kernel
theorem dX1_tryForms_16 : decode cX1_tryForms 16 = .ok (.iload_n 3, 1) := by decide +kernel
theorem dX1_tryForms_17 : decode cX1_tryForms 17 = .ok (.aload_n 0, 1) := by decide +kernel
theorem dX1_tryForms_18 : decode cX1_tryForms 18 = .ok (.getfield 36, 3) := by decide +kernel
theorem dX1_tryForms_21 : decode cX1_tryForms 21 = .ok (.iload_n 1, 1) := by decide +kernel
theorem dX1_tryForms_22 : decode cX1_tryForms 22 = .ok (.iload 4, 2) := by decide +kernel
theorem dX1_tryForms_24 : decode cX1_tryForms 24 = .ok (.iload_n 3, 1) := by decide +kernel
theorem dX1_tryForms_25 : decode cX1_tryForms 25 = .ok (.invokevirtual 71, 3) := by decide +kernel
theorem dX1_tryForms_28 : decode cX1_tryForms 28 = .ok (.iadd, 1) := by decide +kernel
theorem dX1_tryForms_29 : decode cX1_tryForms 29 = .ok (.istore 5, 2) := by decide +kernel
theorem dX1_tryForms_31 : decode cX1_tryForms 31 = .ok (.aload_n 0, 1) := by decide +kernel
theorem dX1_tryForms_32 : decode cX1_tryForms 32 = .ok (.getfield 15, 3) := by decide +kernel
theorem dX1_tryForms_35 : decode cX1_tryForms 35 = .ok (.iload_n 1, 1) := by decide +kernel
theorem dX1_tryForms_36 : decode cX1_tryForms 36 = .ok (.iload 4, 2) := by decide +kernel
theorem dX1_tryForms_38 : decode cX1_tryForms 38 = .ok (.iastore, 1) := by decide +kernel
theorem dX1_tryForms_39 : decode cX1_tryForms 39 = .ok (.aload_n 0, 1) := by decide +kernel
theorem dX1_tryForms_40 : decode cX1_tryForms 40 = .ok (.iload_n 1, 1) := by decide +kernel
theorem dX1_tryForms_41 : decode cX1_tryForms 41 = .ok (.iload 4, 2) := by decide +kernel
theorem dX1_tryForms_43 : decode cX1_tryForms 43 = .ok (.iload 5, 2) := by decide +kernel
theorem dX1_tryForms_45 : decode cX1_tryForms 45 = .ok (.invokevirtual 77, 3) := by decide +kernel
theorem dX1_tryForms_48 : decode cX1_tryForms 48 = .ok (.ifCond .eq 15, 3) := by decide +kernel
theorem dX1_tryForms_51 : decode cX1_tryForms 51 = .ok (.aload_n 0, 1) := by decide +kernel
theorem dX1_tryForms_52 : decode cX1_tryForms 52 = .ok (.iload_n 1, 1) := by decide +kernel
theorem dX1_tryForms_53 : decode cX1_tryForms 53 = .ok (.iconst 1, 1) := by decide +kernel
theorem dX1_tryForms_54 : decode cX1_tryForms 54 = .ok (.iadd, 1) := by decide +kernel
theorem dX1_tryForms_55 : decode cX1_tryForms 55 = .ok (.iload 5, 2) := by decide +kernel
theorem dX1_tryForms_57 : decode cX1_tryForms 57 = .ok (.iload_n 2, 1) := by decide +kernel
theorem dX1_tryForms_58 : decode cX1_tryForms 58 = .ok (.iconst 1, 1) := by decide +kernel
theorem dX1_tryForms_59 : decode cX1_tryForms 59 = .ok (.iadd, 1) := by decide +kernel
theorem dX1_tryForms_60 : decode cX1_tryForms 60 = .ok (.invokevirtual 56, 3) := by decide +kernel
theorem dX1_tryForms_63 : decode cX1_tryForms 63 = .ok (.iinc 4 1, 3) := by decide +kernel
theorem dX1_tryForms_66 : decode cX1_tryForms 66 = .ok (.goto (-56), 3) := by decide +kernel
theorem dX1_tryForms_69 : decode cX1_tryForms 69 = .ok (.return_, 1) := by decide +kernel
theorem dX1_placeUpToTransfer_0 : decode cX1_placeUpToTransfer 0 = .ok (.iload_n 2, 1) := by decide +kernel
theorem dX1_placeUpToTransfer_1 : decode cX1_placeUpToTransfer 1 = .ok (.istore_n 3, 1) := by decide +kernel
theorem dX1_placeUpToTransfer_2 : decode cX1_placeUpToTransfer 2 = .ok (.aload_n 0, 1) := by decide +kernel
theorem dX1_placeUpToTransfer_3 : decode cX1_placeUpToTransfer 3 = .ok (.getfield 28, 3) := by decide +kernel
theorem dX1_placeUpToTransfer_6 : decode cX1_placeUpToTransfer 6 = .ok (.invokevirtual 40, 3) := by decide +kernel
theorem dX1_placeUpToTransfer_9 : decode cX1_placeUpToTransfer 9 = .ok (.istore 4, 2) := by decide +kernel
theorem dX1_placeUpToTransfer_11 : decode cX1_placeUpToTransfer 11 = .ok (.iload_n 1, 1) := by decide +kernel
theorem dX1_placeUpToTransfer_12 : decode cX1_placeUpToTransfer 12 = .ok (.istore 5, 2) := by decide +kernel
theorem dX1_placeUpToTransfer_14 : decode cX1_placeUpToTransfer 14 = .ok (.iload 5, 2) := by decide +kernel
theorem dX1_placeUpToTransfer_16 : decode cX1_placeUpToTransfer 16 = .ok (.iload 4, 2) := by decide +kernel
theorem dX1_placeUpToTransfer_18 : decode cX1_placeUpToTransfer 18 = .ok (.if_icmp .ge 70, 3) := by decide +kernel
theorem dX1_placeUpToTransfer_21 : decode cX1_placeUpToTransfer 21 = .ok (.aload_n 0, 1) := by decide +kernel
theorem dX1_placeUpToTransfer_22 : decode cX1_placeUpToTransfer 22 = .ok (.getfield 9, 3) := by decide +kernel
theorem dX1_placeUpToTransfer_25 : decode cX1_placeUpToTransfer 25 = .ok (.iload 5, 2) := by decide +kernel
theorem dX1_placeUpToTransfer_27 : decode cX1_placeUpToTransfer 27 = .ok (.iload_n 3, 1) := by decide +kernel
theorem dX1_placeUpToTransfer_28 : decode cX1_placeUpToTransfer 28 = .ok (.iastore, 1) := by decide +kernel
theorem dX1_placeUpToTransfer_29 : decode cX1_placeUpToTransfer 29 = .ok (.aload_n 0, 1) := by decide +kernel
theorem dX1_placeUpToTransfer_30 : decode cX1_placeUpToTransfer 30 = .ok (.getfield 28, 3) := by decide +kernel
theorem dX1_placeUpToTransfer_33 : decode cX1_placeUpToTransfer 33 = .ok (.iload 5, 2) := by decide +kernel
theorem dX1_placeUpToTransfer_35 : decode cX1_placeUpToTransfer 35 = .ok (.invokevirtual 81, 3) := by decide +kernel
theorem dX1_placeUpToTransfer_38 : decode cX1_placeUpToTransfer 38 = .ok (.ifCond .eq 6, 3) := by decide +kernel
theorem dX1_placeUpToTransfer_41 : decode cX1_placeUpToTransfer 41 = .ok (.iload 5, 2) := by decide +kernel
theorem dX1_placeUpToTransfer_43 : decode cX1_placeUpToTransfer 43 = .ok (.ireturn, 1) := by decide +kernel
theorem dX1_placeUpToTransfer_44 : decode cX1_placeUpToTransfer 44 = .ok (.aload_n 0, 1) := by decide +kernel
theorem dX1_placeUpToTransfer_45 : decode cX1_placeUpToTransfer 45 = .ok (.getfield 28, 3) := by decide +kernel
theorem dX1_placeUpToTransfer_48 : decode cX1_placeUpToTransfer 48 = .ok (.iload 5, 2) := by decide +kernel
theorem dX1_placeUpToTransfer_50 : decode cX1_placeUpToTransfer 50 = .ok (.invokevirtual 85, 3) := by decide +kernel
theorem dX1_placeUpToTransfer_53 : decode cX1_placeUpToTransfer 53 = .ok (.iconst 2, 1) := by decide +kernel
theorem dX1_placeUpToTransfer_54 : decode cX1_placeUpToTransfer 54 = .ok (.if_icmp .ne 14, 3) := by decide +kernel
theorem dX1_placeUpToTransfer_57 : decode cX1_placeUpToTransfer 57 = .ok (.aload_n 0, 1) := by decide +kernel
theorem dX1_placeUpToTransfer_58 : decode cX1_placeUpToTransfer 58 = .ok (.iload 5, 2) := by decide +kernel
theorem dX1_placeUpToTransfer_60 : decode cX1_placeUpToTransfer 60 = .ok (.invokevirtual 89, 3) := by decide +kernel
theorem dX1_placeUpToTransfer_63 : decode cX1_placeUpToTransfer 63 = .ok (.ifCond .ne 5, 3) := by decide +kernel
theorem dX1_placeUpToTransfer_66 : decode cX1_placeUpToTransfer 66 = .ok (.iconst (-1), 1) := by decide +kernel
theorem dX1_placeUpToTransfer_67 : decode cX1_placeUpToTransfer 67 = .ok (.ireturn, 1) := by decide +kernel
theorem dX1_placeUpToTransfer_68 : decode cX1_placeUpToTransfer 68 = .ok (.iload_n 3, 1) := by decide +kernel
theorem dX1_placeUpToTransfer_69 : decode cX1_placeUpToTransfer 69 = .ok (.aload_n 0, 1) := by decide +kernel
theorem dX1_placeUpToTransfer_70 : decode cX1_placeUpToTransfer 70 = .ok (.getfield 36, 3) := by decide +kernel
theorem dX1_placeUpToTransfer_73 : decode cX1_placeUpToTransfer 73 = .ok (.iload 5, 2) := by decide +kernel
theorem dX1_placeUpToTransfer_75 : decode cX1_placeUpToTransfer 75 = .ok (.iconst 0, 1) := by decide +kernel
theorem dX1_placeUpToTransfer_76 : decode cX1_placeUpToTransfer 76 = .ok (.iload_n 3, 1) := by decide +kernel
theorem dX1_placeUpToTransfer_77 : decode cX1_placeUpToTransfer 77 = .ok (.invokevirtual 71, 3) := by decide +kernel
theorem dX1_placeUpToTransfer_80 : decode cX1_placeUpToTransfer 80 = .ok (.iadd, 1) := by decide +kernel
theorem dX1_placeUpToTransfer_81 : decode cX1_placeUpToTransfer 81 = .ok (.istore_n 3, 1) := by decide +kernel
theorem dX1_placeUpToTransfer_82 : decode cX1_placeUpToTransfer 82 = .ok (.iinc 5 1, 3) := by decide +kernel
theorem dX1_placeUpToTransfer_85 : decode cX1_placeUpToTransfer 85 = .ok (.goto (-71), 3) := by decide +kernel
theorem dX1_placeUpToTransfer_88 : decode cX1_placeUpToTransfer 88 = .ok (.aload_n 0, 1) := by decide +kernel
theorem dX1_placeUpToTransfer_89 : decode cX1_placeUpToTransfer 89 = .ok (.getfield 9, 3) := by decide +kernel
theorem dX1_placeUpToTransfer_92 : decode cX1_placeUpToTransfer 92 = .ok (.iload 4, 2) := by decide +kernel
theorem dX1_placeUpToTransfer_94 : decode cX1_placeUpToTransfer 94 = .ok (.iload_n 3, 1) := by decide +kernel
theorem dX1_placeUpToTransfer_95 : decode cX1_placeUpToTransfer 95 = .ok (.iastore, 1) := by decide +kernel
theorem dX1_placeUpToTransfer_96 : decode cX1_placeUpToTransfer 96 = .ok (.iload 4, 2) := by decide +kernel
theorem dX1_placeUpToTransfer_98 : decode cX1_placeUpToTransfer 98 = .ok (.ireturn, 1) := by decide +kernel
theorem dX1_fitsBackward_0 : decode cX1_fitsBackward 0 = .ok (.aload_n 0, 1) := by decide +kernel
theorem dX1_fitsBackward_1 : decode cX1_fitsBackward 1 = .ok (.getfield 32, 3) := by decide +kernel
theorem dX1_fitsBackward_4 : decode cX1_fitsBackward 4 = .ok (.aload_n 0, 1) := by decide +kernel
theorem dX1_fitsBackward_5 : decode cX1_fitsBackward 5 = .ok (.getfield 28, 3) := by decide +kernel
theorem dX1_fitsBackward_8 : decode cX1_fitsBackward 8 = .ok (.iload_n 1, 1) := by decide +kernel
theorem dX1_fitsBackward_9 : decode cX1_fitsBackward 9 = .ok (.invokevirtual 92, 3) := by decide +kernel
theorem dX1_fitsBackward_12 : decode cX1_fitsBackward 12 = .ok (.invokevirtual 95, 3) := by decide +kernel
theorem dX1_fitsBackward_15 : decode cX1_fitsBackward 15 = .ok (.istore 4, 2) := by decide +kernel
theorem dX1_fitsBackward_17 : decode cX1_fitsBackward 17 = .ok (.iload 4, 2) := by decide +kernel
theorem dX1_fitsBackward_19 : decode cX1_fitsBackward 19 = .ok (.ifCond .lt 9, 3) := by decide +kernel
theorem dX1_fitsBackward_22 : decode cX1_fitsBackward 22 = .ok (.iload 4, 2) := by decide +kernel
theorem dX1_fitsBackward_24 : decode cX1_fitsBackward 24 = .ok (.iload_n 1, 1) := by decide +kernel
theorem dX1_fitsBackward_25 : decode cX1_fitsBackward 25 = .ok (.if_icmp .le 5, 3) := by decide +kernel
theorem dX1_fitsBackward_28 : decode cX1_fitsBackward 28 = .ok (.iconst 1, 1) := by decide +kernel
theorem dX1_fitsBackward_29 : decode cX1_fitsBackward 29 = .ok (.ireturn, 1) := by decide +kernel
theorem dX1_fitsBackward_30 : decode cX1_fitsBackward 30 = .ok (.aload_n 0, 1) := by decide +kernel
theorem dX1_fitsBackward_31 : decode cX1_fitsBackward 31 = .ok (.getfield 9, 3) := by decide +kernel
theorem dX1_fitsBackward_34 : decode cX1_fitsBackward 34 = .ok (.iload 4, 2) := by decide +kernel
theorem dX1_fitsBackward_36 : decode cX1_fitsBackward 36 = .ok (.iaload, 1) := by decide +kernel
theorem dX1_fitsBackward_37 : decode cX1_fitsBackward 37 = .ok (.iload_n 3, 1) := by decide +kernel
theorem dX1_fitsBackward_38 : decode cX1_fitsBackward 38 = .ok (.isub, 1) := by decide +kernel
theorem dX1_fitsBackward_39 : decode cX1_fitsBackward 39 = .ok (.invokestatic 100, 3) := by decide +kernel
theorem dX1_fitsBackward_42 : decode cX1_fitsBackward 42 = .ok (.iload_n 2, 1) := by decide +kernel
theorem dX1_fitsBackward_43 : decode cX1_fitsBackward 43 = .ok (.if_icmp .gt 7, 3) := by decide +kernel
theorem dX1_fitsBackward_46 : decode cX1_fitsBackward 46 = .ok (.iconst 1, 1) := by decide +kernel
theorem dX1_fitsBackward_47 : decode cX1_fitsBackward 47 = .ok (.goto 4, 3) := by decide +kernel
theorem dX1_fitsBackward_50 : decode cX1_fitsBackward 50 = .ok (.iconst 0, 1) := by decide +kernel
theorem dX1_fitsBackward_51 : decode cX1_fitsBackward 51 = .ok (.ireturn, 1) := by decide +kernel
theorem dX1_allFitForward_0 : decode cX1_allFitForward 0 = .ok (.aload_n 0, 1) := by decide +kernel
theorem dX1_allFitForward_1 : decode cX1_allFitForward 1 = .ok (.getfield 28, 3) := by decide +kernel
theorem dX1_allFitForward_4 : decode cX1_allFitForward 4 = .ok (.iload_n 1, 1) := by decide +kernel
theorem dX1_allFitForward_5 : decode cX1_allFitForward 5 = .ok (.invokevirtual 92, 3) := by decide +kernel
theorem dX1_allFitForward_8 : decode cX1_allFitForward 8 = .ok (.istore_n 2, 1) := by decide +kernel
theorem dX1_allFitForward_9 : decode cX1_allFitForward 9 = .ok (.iconst 0, 1) := by decide +kernel
theorem dX1_allFitForward_10 : decode cX1_allFitForward 10 = .ok (.istore_n 3, 1) := by decide +kernel
theorem dX1_allFitForward_11 : decode cX1_allFitForward 11 = .ok (.iload_n 3, 1) := by decide +kernel
theorem dX1_allFitForward_12 : decode cX1_allFitForward 12 = .ok (.iload_n 1, 1) := by decide +kernel
theorem dX1_allFitForward_13 : decode cX1_allFitForward 13 = .ok (.if_icmp .ge 61, 3) := by decide +kernel
theorem dX1_allFitForward_16 : decode cX1_allFitForward 16 = .ok (.aload_n 0, 1) := by decide +kernel
theorem dX1_allFitForward_17 : decode cX1_allFitForward 17 = .ok (.getfield 28, 3) := by decide +kernel
theorem dX1_allFitForward_20 : decode cX1_allFitForward 20 = .ok (.iload_n 3, 1) := by decide +kernel
theorem dX1_allFitForward_21 : decode cX1_allFitForward 21 = .ok (.invokevirtual 81, 3) := by decide +kernel
theorem dX1_allFitForward_24 : decode cX1_allFitForward 24 = .ok (.ifCond .eq 44, 3) := by decide +kernel
theorem dX1_allFitForward_27 : decode cX1_allFitForward 27 = .ok (.aload_n 0, 1) := by decide +kernel
theorem dX1_allFitForward_28 : decode cX1_allFitForward 28 = .ok (.getfield 28, 3) := by decide +kernel
theorem dX1_allFitForward_31 : decode cX1_allFitForward 31 = .ok (.iload_n 3, 1) := by decide +kernel
theorem dX1_allFitForward_32 : decode cX1_allFitForward 32 = .ok (.invokevirtual 92, 3) := by decide +kernel
theorem dX1_allFitForward_35 : decode cX1_allFitForward 35 = .ok (.iload_n 2, 1) := by decide +kernel
theorem dX1_allFitForward_36 : decode cX1_allFitForward 36 = .ok (.if_icmp .ne 32, 3) := by decide +kernel
theorem dX1_allFitForward_39 : decode cX1_allFitForward 39 = .ok (.aload_n 0, 1) := by decide +kernel
theorem dX1_allFitForward_40 : decode cX1_allFitForward 40 = .ok (.getfield 9, 3) := by decide +kernel
theorem dX1_allFitForward_43 : decode cX1_allFitForward 43 = .ok (.iload_n 1, 1) := by decide +kernel
theorem dX1_allFitForward_44 : decode cX1_allFitForward 44 = .ok (.iaload, 1) := by decide +kernel
theorem dX1_allFitForward_45 : decode cX1_allFitForward 45 = .ok (.aload_n 0, 1) := by decide +kernel
theorem dX1_allFitForward_46 : decode cX1_allFitForward 46 = .ok (.getfield 9, 3) := by decide +kernel
theorem dX1_allFitForward_49 : decode cX1_allFitForward 49 = .ok (.iload_n 3, 1) := by decide +kernel
theorem dX1_allFitForward_50 : decode cX1_allFitForward 50 = .ok (.iconst 1, 1) := by decide +kernel
theorem dX1_allFitForward_51 : decode cX1_allFitForward 51 = .ok (.iadd, 1) := by decide +kernel
theorem dX1_allFitForward_52 : decode cX1_allFitForward 52 = .ok (.iaload, 1) := by decide +kernel
theorem dX1_allFitForward_53 : decode cX1_allFitForward 53 = .ok (.isub, 1) := by decide +kernel
theorem dX1_allFitForward_54 : decode cX1_allFitForward 54 = .ok (.invokestatic 100, 3) := by decide +kernel
theorem dX1_allFitForward_57 : decode cX1_allFitForward 57 = .ok (.aload_n 0, 1) := by decide +kernel
theorem dX1_allFitForward_58 : decode cX1_allFitForward 58 = .ok (.getfield 15, 3) := by decide +kernel
theorem dX1_allFitForward_61 : decode cX1_allFitForward 61 = .ok (.iload_n 3, 1) := by decide +kernel
theorem dX1_allFitForward_62 : decode cX1_allFitForward 62 = .ok (.iaload, 1) := by decide +kernel
theorem dX1_allFitForward_63 : decode cX1_allFitForward 63 = .ok (.if_icmp .le 5, 3) := by decide +kernel
theorem dX1_allFitForward_66 : decode cX1_allFitForward 66 = .ok (.iconst 0, 1) := by decide +kernel
theorem dX1_allFitForward_67 : decode cX1_allFitForward 67 = .ok (.ireturn, 1) := by decide +kernel
theorem dX1_allFitForward_68 : decode cX1_allFitForward 68 = .ok (.iinc 3 1, 3) := by decide +kernel
theorem dX1_allFitForward_71 : decode cX1_allFitForward 71 = .ok (.goto (-60), 3) := by decide +kernel
theorem dX1_allFitForward_74 : decode cX1_allFitForward 74 = .ok (.iconst 1, 1) := by decide +kernel
theorem dX1_allFitForward_75 : decode cX1_allFitForward 75 = .ok (.ireturn, 1) := by decide +kernel
theorem dX1_keep_0 : decode cX1_keep 0 = .ok (.iload_n 1, 1) := by decide +kernel
theorem dX1_keep_1 : decode cX1_keep 1 = .ok (.aload_n 0, 1) := by decide +kernel
theorem dX1_keep_2 : decode cX1_keep 2 = .ok (.getfield 36, 3) := by decide +kernel
theorem dX1_keep_5 : decode cX1_keep 5 = .ok (.aload_n 0, 1) := by decide +kernel
theorem dX1_keep_6 : decode cX1_keep 6 = .ok (.getfield 32, 3) := by decide +kernel
theorem dX1_keep_9 : decode cX1_keep 9 = .ok (.invokevirtual 103, 3) := by decide +kernel
theorem dX1_keep_12 : decode cX1_keep 12 = .ok (.iload_n 1, 1) := by decide +kernel
theorem dX1_keep_13 : decode cX1_keep 13 = .ok (.invokevirtual 106, 3) := by decide +kernel
theorem dX1_keep_16 : decode cX1_keep 16 = .ok (.iadd, 1) := by decide +kernel
theorem dX1_keep_17 : decode cX1_keep 17 = .ok (.istore_n 2, 1) := by decide +kernel
theorem dX1_keep_18 : decode cX1_keep 18 = .ok (.aload_n 0, 1) := by decide +kernel
theorem dX1_keep_19 : decode cX1_keep 19 = .ok (.getfield 21, 3) := by decide +kernel
theorem dX1_keep_22 : decode cX1_keep 22 = .ok (.ifCond .eq 11, 3) := by decide +kernel
theorem dX1_keep_25 : decode cX1_keep 25 = .ok (.iload_n 2, 1) := by decide +kernel
theorem dX1_keep_26 : decode cX1_keep 26 = .ok (.aload_n 0, 1) := by decide +kernel
theorem dX1_keep_27 : decode cX1_keep 27 = .ok (.getfield 25, 3) := by decide +kernel
theorem dX1_keep_30 : decode cX1_keep 30 = .ok (.if_icmp .ge 23, 3) := by decide +kernel
theorem dX1_keep_33 : decode cX1_keep 33 = .ok (.aload_n 0, 1) := by decide +kernel
theorem dX1_keep_34 : decode cX1_keep 34 = .ok (.iload_n 2, 1) := by decide +kernel
theorem dX1_keep_35 : decode cX1_keep 35 = .ok (.putfield 25, 3) := by decide +kernel
theorem dX1_keep_38 : decode cX1_keep 38 = .ok (.aload_n 0, 1) := by decide +kernel
theorem dX1_keep_39 : decode cX1_keep 39 = .ok (.getfield 15, 3) := by decide +kernel
theorem dX1_keep_42 : decode cX1_keep 42 = .ok (.iconst 0, 1) := by decide +kernel
theorem dX1_keep_43 : decode cX1_keep 43 = .ok (.aload_n 0, 1) := by decide +kernel
theorem dX1_keep_44 : decode cX1_keep 44 = .ok (.getfield 18, 3) := by decide +kernel
theorem dX1_keep_47 : decode cX1_keep 47 = .ok (.iconst 0, 1) := by decide +kernel
theorem dX1_keep_48 : decode cX1_keep 48 = .ok (.bipush 40, 2) := by decide +kernel
theorem dX1_keep_50 : decode cX1_keep 50 = .ok (.invokestatic 109, 3) := by decide +kernel
theorem dX1_keep_53 : decode cX1_keep 53 = .ok (.aload_n 0, 1) := by decide +kernel
theorem dX1_keep_54 : decode cX1_keep 54 = .ok (.dup, 1) := by decide +kernel
theorem dX1_keep_55 : decode cX1_keep 55 = .ok (.getfield 21, 3) := by decide +kernel
theorem dX1_keep_58 : decode cX1_keep 58 = .ok (.iconst 1, 1) := by decide +kernel
theorem dX1_keep_59 : decode cX1_keep 59 = .ok (.iadd, 1) := by decide +kernel
theorem dX1_keep_60 : decode cX1_keep 60 = .ok (.putfield 21, 3) := by decide +kernel
theorem dX1_keep_63 : decode cX1_keep 63 = .ok (.return_, 1) := by decide +kernel
end
section
theorem dX2_init_0 : decode cX2_init 0 = .ok (.aload_n 0, 1) := by decide +kernel
theorem dX2_init_1 : decode cX2_init 1 = .ok (.invokespecial 3, 3) := by decide +kernel
theorem dX2_init_4 : decode cX2_init 4 = .ok (.aload_n 0, 1) := by decide +kernel
theorem dX2_init_5 : decode cX2_init 5 = .ok (.bipush 10, 2) := by decide +kernel
theorem dX2_init_7 : decode cX2_init 7 = .ok (.anewarray 9, 3) := by decide +kernel
theorem dX2_init_10 : decode cX2_init 10 = .ok (.putfield 11, 3) := by decide +kernel
theorem dX2_init_13 : decode cX2_init 13 = .ok (.aload_n 0, 1) := by decide +kernel
theorem dX2_init_14 : decode cX2_init 14 = .ok (.iconst 0, 1) := by decide +kernel
theorem dX2_init_15 : decode cX2_init 15 = .ok (.putfield 17, 3) := by decide +kernel
theorem dX2_init_18 : decode cX2_init 18 = .ok (.aload_n 0, 1) := by decide +kernel
theorem dX2_init_19 : decode cX2_init 19 = .ok (.iconst 0, 1) := by decide +kernel
theorem dX2_init_20 : decode cX2_init 20 = .ok (.putfield 21, 3) := by decide +kernel
theorem dX2_init_23 : decode cX2_init 23 = .ok (.iconst 0, 1) := by decide +kernel
theorem dX2_init_24 : decode cX2_init 24 = .ok (.istore_n 1, 1) := by decide +kernel
theorem dX2_init_25 : decode cX2_init 25 = .ok (.iload_n 1, 1) := by decide +kernel
theorem dX2_init_26 : decode cX2_init 26 = .ok (.bipush 10, 2) := by decide +kernel
theorem dX2_init_28 : decode cX2_init 28 = .ok (.if_icmp .ge 22, 3) := by decide +kernel
theorem dX2_init_31 : decode cX2_init 31 = .ok (.aload_n 0, 1) := by decide +kernel
theorem dX2_init_32 : decode cX2_init 32 = .ok (.getfield 11, 3) := by decide +kernel
theorem dX2_init_35 : decode cX2_init 35 = .ok (.iload_n 1, 1) := by decide +kernel
theorem dX2_init_36 : decode cX2_init 36 = .ok (.new 9, 3) := by decide +kernel
theorem dX2_init_39 : decode cX2_init 39 = .ok (.dup, 1) := by decide +kernel
theorem dX2_init_40 : decode cX2_init 40 = .ok (.invokespecial 24, 3) := by decide +kernel
theorem dX2_init_43 : decode cX2_init 43 = .ok (.aastore, 1) := by decide +kernel
theorem dX2_init_44 : decode cX2_init 44 = .ok (.iinc 1 1, 3) := by decide +kernel
theorem dX2_init_47 : decode cX2_init 47 = .ok (.goto (-22), 3) := by decide +kernel
theorem dX2_init_50 : decode cX2_init 50 = .ok (.return_, 1) := by decide +kernel
theorem dX2_isEmpty_0 : decode cX2_isEmpty 0 = .ok (.aload_n 0, 1) := by decide +kernel
theorem dX2_isEmpty_1 : decode cX2_isEmpty 1 = .ok (.getfield 21, 3) := by decide +kernel
theorem dX2_isEmpty_4 : decode cX2_isEmpty 4 = .ok (.ifCond .ne 7, 3) := by decide +kernel
theorem dX2_isEmpty_7 : decode cX2_isEmpty 7 = .ok (.iconst 1, 1) := by decide +kernel
theorem dX2_isEmpty_8 : decode cX2_isEmpty 8 = .ok (.goto 4, 3) := by decide +kernel
theorem dX2_isEmpty_11 : decode cX2_isEmpty 11 = .ok (.iconst 0, 1) := by decide +kernel
theorem dX2_isEmpty_12 : decode cX2_isEmpty 12 = .ok (.ireturn, 1) := by decide +kernel
theorem dX2_remember_0 : decode cX2_remember 0 = .ok (.aload_n 0, 1) := by decide +kernel
theorem dX2_remember_1 : decode cX2_remember 1 = .ok (.aload_n 0, 1) := by decide +kernel
theorem dX2_remember_2 : decode cX2_remember 2 = .ok (.getfield 17, 3) := by decide +kernel
theorem dX2_remember_5 : decode cX2_remember 5 = .ok (.bipush 9, 2) := by decide +kernel
theorem dX2_remember_7 : decode cX2_remember 7 = .ok (.if_icmp .ge 12, 3) := by decide +kernel
theorem dX2_remember_10 : decode cX2_remember 10 = .ok (.aload_n 0, 1) := by decide +kernel
theorem dX2_remember_11 : decode cX2_remember 11 = .ok (.getfield 17, 3) := by decide +kernel
theorem dX2_remember_14 : decode cX2_remember 14 = .ok (.iconst 1, 1) := by decide +kernel
theorem dX2_remember_15 : decode cX2_remember 15 = .ok (.iadd, 1) := by decide +kernel
theorem dX2_remember_16 : decode cX2_remember 16 = .ok (.goto 4, 3) := by decide +kernel
theorem dX2_remember_19 : decode cX2_remember 19 = .ok (.iconst 0, 1) := by decide +kernel
theorem dX2_remember_20 : decode cX2_remember 20 = .ok (.putfield 17, 3) := by decide +kernel
theorem dX2_remember_23 : decode cX2_remember 23 = .ok (.aload_n 0, 1) := by decide +kernel
theorem dX2_remember_24 : decode cX2_remember 24 = .ok (.getfield 11, 3) := by decide +kernel
theorem dX2_remember_27 : decode cX2_remember 27 = .ok (.aload_n 0, 1) := by decide +kernel
theorem dX2_remember_28 : decode cX2_remember 28 = .ok (.getfield 17, 3) := by decide +kernel
theorem dX2_remember_31 : decode cX2_remember 31 = .ok (.aaload, 1) := by decide +kernel
theorem dX2_remember_32 : decode cX2_remember 32 = .ok (.aload_n 1, 1) := by decide +kernel
theorem dX2_remember_33 : decode cX2_remember 33 = .ok (.invokevirtual 25, 3) := by decide +kernel
theorem dX2_remember_36 : decode cX2_remember 36 = .ok (.aload_n 0, 1) := by decide +kernel
theorem dX2_remember_37 : decode cX2_remember 37 = .ok (.getfield 21, 3) := by decide +kernel
theorem dX2_remember_40 : decode cX2_remember 40 = .ok (.bipush 10, 2) := by decide +kernel
theorem dX2_remember_42 : decode cX2_remember 42 = .ok (.if_icmp .ge 13, 3) := by decide +kernel
theorem dX2_remember_45 : decode cX2_remember 45 = .ok (.aload_n 0, 1) := by decide +kernel
theorem dX2_remember_46 : decode cX2_remember 46 = .ok (.dup, 1) := by decide +kernel
theorem dX2_remember_47 : decode cX2_remember 47 = .ok (.getfield 21, 3) := by decide +kernel
theorem dX2_remember_50 : decode cX2_remember 50 = .ok (.iconst 1, 1) := by decide +kernel
theorem dX2_remember_51 : decode cX2_remember 51 = .ok (.iadd, 1) := by decide +kernel
theorem dX2_remember_52 : decode cX2_remember 52 = .ok (.putfield 21, 3) := by decide +kernel
theorem dX2_remember_55 : decode cX2_remember 55 = .ok (.return_, 1) := by decide +kernel
theorem dX2_takeBack_0 : decode cX2_takeBack 0 = .ok (.aload_n 0, 1) := by decide +kernel
theorem dX2_takeBack_1 : decode cX2_takeBack 1 = .ok (.getfield 21, 3) := by decide +kernel
theorem dX2_takeBack_4 : decode cX2_takeBack 4 = .ok (.ifCond .le 48, 3) := by decide +kernel
theorem dX2_takeBack_7 : decode cX2_takeBack 7 = .ok (.aload_n 1, 1) := by decide +kernel
theorem dX2_takeBack_8 : decode cX2_takeBack 8 = .ok (.aload_n 0, 1) := by decide +kernel
theorem dX2_takeBack_9 : decode cX2_takeBack 9 = .ok (.getfield 11, 3) := by decide +kernel
theorem dX2_takeBack_12 : decode cX2_takeBack 12 = .ok (.aload_n 0, 1) := by decide +kernel
theorem dX2_takeBack_13 : decode cX2_takeBack 13 = .ok (.getfield 17, 3) := by decide +kernel
theorem dX2_takeBack_16 : decode cX2_takeBack 16 = .ok (.aaload, 1) := by decide +kernel
theorem dX2_takeBack_17 : decode cX2_takeBack 17 = .ok (.invokevirtual 25, 3) := by decide +kernel
theorem dX2_takeBack_20 : decode cX2_takeBack 20 = .ok (.aload_n 0, 1) := by decide +kernel
theorem dX2_takeBack_21 : decode cX2_takeBack 21 = .ok (.aload_n 0, 1) := by decide +kernel
theorem dX2_takeBack_22 : decode cX2_takeBack 22 = .ok (.getfield 17, 3) := by decide +kernel
theorem dX2_takeBack_25 : decode cX2_takeBack 25 = .ok (.ifCond .le 12, 3) := by decide +kernel
theorem dX2_takeBack_28 : decode cX2_takeBack 28 = .ok (.aload_n 0, 1) := by decide +kernel
theorem dX2_takeBack_29 : decode cX2_takeBack 29 = .ok (.getfield 17, 3) := by decide +kernel
theorem dX2_takeBack_32 : decode cX2_takeBack 32 = .ok (.iconst 1, 1) := by decide +kernel
theorem dX2_takeBack_33 : decode cX2_takeBack 33 = .ok (.isub, 1) := by decide +kernel
theorem dX2_takeBack_34 : decode cX2_takeBack 34 = .ok (.goto 5, 3) := by decide +kernel
theorem dX2_takeBack_37 : decode cX2_takeBack 37 = .ok (.bipush 9, 2) := by decide +kernel
theorem dX2_takeBack_39 : decode cX2_takeBack 39 = .ok (.putfield 17, 3) := by decide +kernel
theorem dX2_takeBack_42 : decode cX2_takeBack 42 = .ok (.aload_n 0, 1) := by decide +kernel
theorem dX2_takeBack_43 : decode cX2_takeBack 43 = .ok (.dup, 1) := by decide +kernel
theorem dX2_takeBack_44 : decode cX2_takeBack 44 = .ok (.getfield 21, 3) := by decide +kernel
theorem dX2_takeBack_47 : decode cX2_takeBack 47 = .ok (.iconst 1, 1) := by decide +kernel
theorem dX2_takeBack_48 : decode cX2_takeBack 48 = .ok (.isub, 1) := by decide +kernel
theorem dX2_takeBack_49 : decode cX2_takeBack 49 = .ok (.putfield 21, 3) := by decide +kernel
theorem dX2_takeBack_52 : decode cX2_takeBack 52 = .ok (.aload_n 0, 1) := by decide +kernel
theorem dX2_takeBack_53 : decode cX2_takeBack 53 = .ok (.getfield 21, 3) := by decide +kernel
theorem dX2_takeBack_56 : decode cX2_takeBack 56 = .ok (.ireturn, 1) := by decide +kernel
theorem dX2_forget_0 : decode cX2_forget 0 = .ok (.aload_n 0, 1) := by decide +kernel
theorem dX2_forget_1 : decode cX2_forget 1 = .ok (.iconst 0, 1) := by decide +kernel
theorem dX2_forget_2 : decode cX2_forget 2 = .ok (.putfield 21, 3) := by decide +kernel
theorem dX2_forget_5 : decode cX2_forget 5 = .ok (.return_, 1) := by decide +kernel
end
section
theorem dX3_init_0 : decode cX3_init 0 = .ok (.aload_n 0, 1) := by decide +kernel
theorem dX3_init_1 : decode cX3_init 1 = .ok (.invokespecial 3, 3) := by decide +kernel
theorem dX3_init_4 : decode cX3_init 4 = .ok (.aload_n 0, 1) := by decide +kernel
theorem dX3_init_5 : decode cX3_init 5 = .ok (.bipush 12, 2) := by decide +kernel
theorem dX3_init_7 : decode cX3_init 7 = .ok (.newarray .char, 2) := by decide +kernel
theorem dX3_init_9 : decode cX3_init 9 = .ok (.putfield 9, 3) := by decide +kernel
theorem dX3_init_12 : decode cX3_init 12 = .ok (.aload_n 0, 1) := by decide +kernel
theorem dX3_init_13 : decode cX3_init 13 = .ok (.iconst 0, 1) := by decide +kernel
theorem dX3_init_14 : decode cX3_init 14 = .ok (.putfield 15, 3) := by decide +kernel
theorem dX3_init_17 : decode cX3_init 17 = .ok (.aload_n 0, 1) := by decide +kernel
theorem dX3_init_18 : decode cX3_init 18 = .ok (.iconst (-1), 1) := by decide +kernel
theorem dX3_init_19 : decode cX3_init 19 = .ok (.putfield 19, 3) := by decide +kernel
theorem dX3_init_22 : decode cX3_init 22 = .ok (.aload_n 0, 1) := by decide +kernel
theorem dX3_init_23 : decode cX3_init 23 = .ok (.iconst 0, 1) := by decide +kernel
theorem dX3_init_24 : decode cX3_init 24 = .ok (.putfield 22, 3) := by decide +kernel
theorem dX3_init_27 : decode cX3_init 27 = .ok (.aload_n 0, 1) := by decide +kernel
theorem dX3_init_28 : decode cX3_init 28 = .ok (.iconst 0, 1) := by decide +kernel
theorem dX3_init_29 : decode cX3_init 29 = .ok (.putfield 25, 3) := by decide +kernel
theorem dX3_init_32 : decode cX3_init 32 = .ok (.return_, 1) := by decide +kernel
theorem dX3_isFull_0 : decode cX3_isFull 0 = .ok (.aload_n 0, 1) := by decide +kernel
theorem dX3_isFull_1 : decode cX3_isFull 1 = .ok (.getfield 15, 3) := by decide +kernel
theorem dX3_isFull_4 : decode cX3_isFull 4 = .ok (.bipush 12, 2) := by decide +kernel
theorem dX3_isFull_6 : decode cX3_isFull 6 = .ok (.if_icmp .lt 7, 3) := by decide +kernel
theorem dX3_isFull_9 : decode cX3_isFull 9 = .ok (.iconst 1, 1) := by decide +kernel
theorem dX3_isFull_10 : decode cX3_isFull 10 = .ok (.goto 4, 3) := by decide +kernel
theorem dX3_isFull_13 : decode cX3_isFull 13 = .ok (.iconst 0, 1) := by decide +kernel
theorem dX3_isFull_14 : decode cX3_isFull 14 = .ok (.ireturn, 1) := by decide +kernel
theorem dX3_add_0 : decode cX3_add 0 = .ok (.aload_n 0, 1) := by decide +kernel
theorem dX3_add_1 : decode cX3_add 1 = .ok (.invokevirtual 28, 3) := by decide +kernel
theorem dX3_add_4 : decode cX3_add 4 = .ok (.ifCond .ne 23, 3) := by decide +kernel
theorem dX3_add_7 : decode cX3_add 7 = .ok (.aload_n 0, 1) := by decide +kernel
theorem dX3_add_8 : decode cX3_add 8 = .ok (.getfield 9, 3) := by decide +kernel
theorem dX3_add_11 : decode cX3_add 11 = .ok (.aload_n 0, 1) := by decide +kernel
theorem dX3_add_12 : decode cX3_add 12 = .ok (.getfield 15, 3) := by decide +kernel
theorem dX3_add_15 : decode cX3_add 15 = .ok (.iload_n 1, 1) := by decide +kernel
theorem dX3_add_16 : decode cX3_add 16 = .ok (.castore, 1) := by decide +kernel
theorem dX3_add_17 : decode cX3_add 17 = .ok (.aload_n 0, 1) := by decide +kernel
theorem dX3_add_18 : decode cX3_add 18 = .ok (.dup, 1) := by decide +kernel
theorem dX3_add_19 : decode cX3_add 19 = .ok (.getfield 15, 3) := by decide +kernel
theorem dX3_add_22 : decode cX3_add 22 = .ok (.iconst 1, 1) := by decide +kernel
theorem dX3_add_23 : decode cX3_add 23 = .ok (.iadd, 1) := by decide +kernel
theorem dX3_add_24 : decode cX3_add 24 = .ok (.putfield 15, 3) := by decide +kernel
theorem dX3_add_27 : decode cX3_add 27 = .ok (.aload_n 0, 1) := by decide +kernel
theorem dX3_add_28 : decode cX3_add 28 = .ok (.getfield 15, 3) := by decide +kernel
theorem dX3_add_31 : decode cX3_add 31 = .ok (.ireturn, 1) := by decide +kernel
theorem dX3_read_0 : decode cX3_read 0 = .ok (.aload_n 0, 1) := by decide +kernel
theorem dX3_read_1 : decode cX3_read 1 = .ok (.iconst (-1), 1) := by decide +kernel
theorem dX3_read_2 : decode cX3_read 2 = .ok (.putfield 19, 3) := by decide +kernel
theorem dX3_read_5 : decode cX3_read 5 = .ok (.aload_n 0, 1) := by decide +kernel
theorem dX3_read_6 : decode cX3_read 6 = .ok (.iconst 0, 1) := by decide +kernel
theorem dX3_read_7 : decode cX3_read 7 = .ok (.putfield 25, 3) := by decide +kernel
theorem dX3_read_10 : decode cX3_read 10 = .ok (.iconst 0, 1) := by decide +kernel
theorem dX3_read_11 : decode cX3_read 11 = .ok (.istore_n 1, 1) := by decide +kernel
theorem dX3_read_12 : decode cX3_read 12 = .ok (.iload_n 1, 1) := by decide +kernel
theorem dX3_read_13 : decode cX3_read 13 = .ok (.bipush 8, 2) := by decide +kernel
theorem dX3_read_15 : decode cX3_read 15 = .ok (.if_icmp .ge 51, 3) := by decide +kernel
theorem dX3_read_18 : decode cX3_read 18 = .ok (.aload_n 0, 1) := by decide +kernel
theorem dX3_read_19 : decode cX3_read 19 = .ok (.iload_n 1, 1) := by decide +kernel
theorem dX3_read_20 : decode cX3_read 20 = .ok (.invokevirtual 32, 3) := by decide +kernel
theorem dX3_read_23 : decode cX3_read 23 = .ok (.istore_n 2, 1) := by decide +kernel
theorem dX3_read_24 : decode cX3_read 24 = .ok (.aload_n 0, 1) := by decide +kernel
theorem dX3_read_25 : decode cX3_read 25 = .ok (.aload_n 0, 1) := by decide +kernel
theorem dX3_read_26 : decode cX3_read 26 = .ok (.getfield 25, 3) := by decide +kernel
theorem dX3_read_29 : decode cX3_read 29 = .ok (.iload_n 2, 1) := by decide +kernel
theorem dX3_read_30 : decode cX3_read 30 = .ok (.invokestatic 36, 3) := by decide +kernel
theorem dX3_read_33 : decode cX3_read 33 = .ok (.putfield 25, 3) := by decide +kernel
theorem dX3_read_36 : decode cX3_read 36 = .ok (.iload_n 2, 1) := by decide +kernel
theorem dX3_read_37 : decode cX3_read 37 = .ok (.aload_n 0, 1) := by decide +kernel
theorem dX3_read_38 : decode cX3_read 38 = .ok (.getfield 15, 3) := by decide +kernel
theorem dX3_read_41 : decode cX3_read 41 = .ok (.if_icmp .ne 19, 3) := by decide +kernel
theorem dX3_read_44 : decode cX3_read 44 = .ok (.aload_n 0, 1) := by decide +kernel
theorem dX3_read_45 : decode cX3_read 45 = .ok (.getfield 15, 3) := by decide +kernel
theorem dX3_read_48 : decode cX3_read 48 = .ok (.iload_n 1, 1) := by decide +kernel
theorem dX3_read_49 : decode cX3_read 49 = .ok (.invokestatic 42, 3) := by decide +kernel
theorem dX3_read_52 : decode cX3_read 52 = .ok (.if_icmp .lt 8, 3) := by decide +kernel
theorem dX3_read_55 : decode cX3_read 55 = .ok (.aload_n 0, 1) := by decide +kernel
theorem dX3_read_56 : decode cX3_read 56 = .ok (.iload_n 1, 1) := by decide +kernel
theorem dX3_read_57 : decode cX3_read 57 = .ok (.putfield 19, 3) := by decide +kernel
theorem dX3_read_60 : decode cX3_read 60 = .ok (.iinc 1 1, 3) := by decide +kernel
theorem dX3_read_63 : decode cX3_read 63 = .ok (.goto (-51), 3) := by decide +kernel
theorem dX3_read_66 : decode cX3_read 66 = .ok (.aload_n 0, 1) := by decide +kernel
theorem dX3_read_67 : decode cX3_read 67 = .ok (.aload_n 0, 1) := by decide +kernel
theorem dX3_read_68 : decode cX3_read 68 = .ok (.getfield 19, 3) := by decide +kernel
theorem dX3_read_71 : decode cX3_read 71 = .ok (.iconst (-1), 1) := by decide +kernel
theorem dX3_read_72 : decode cX3_read 72 = .ok (.if_icmp .eq 12, 3) := by decide +kernel
theorem dX3_read_75 : decode cX3_read 75 = .ok (.aload_n 0, 1) := by decide +kernel
theorem dX3_read_76 : decode cX3_read 76 = .ok (.getfield 19, 3) := by decide +kernel
theorem dX3_read_79 : decode cX3_read 79 = .ok (.bipush 7, 2) := by decide +kernel
theorem dX3_read_81 : decode cX3_read 81 = .ok (.if_icmp .ne 7, 3) := by decide +kernel
theorem dX3_read_84 : decode cX3_read 84 = .ok (.iconst 0, 1) := by decide +kernel
theorem dX3_read_85 : decode cX3_read 85 = .ok (.goto 19, 3) := by decide +kernel
theorem dX3_read_88 : decode cX3_read 88 = .ok (.aload_n 0, 1) := by decide +kernel
theorem dX3_read_89 : decode cX3_read 89 = .ok (.aload_n 0, 1) := by decide +kernel
theorem dX3_read_90 : decode cX3_read 90 = .ok (.getfield 19, 3) := by decide +kernel
theorem dX3_read_93 : decode cX3_read 93 = .ok (.invokestatic 45, 3) := by decide +kernel
theorem dX3_read_96 : decode cX3_read 96 = .ok (.invokevirtual 49, 3) := by decide +kernel
theorem dX3_read_99 : decode cX3_read 99 = .ok (.iconst 1, 1) := by decide +kernel
theorem dX3_read_100 : decode cX3_read 100 = .ok (.iadd, 1) := by decide +kernel
theorem dX3_read_101 : decode cX3_read 101 = .ok (.invokevirtual 54, 3) := by decide +kernel
theorem dX3_read_104 : decode cX3_read 104 = .ok (.putfield 22, 3) := by decide +kernel
theorem dX3_read_107 : decode cX3_read 107 = .ok (.aload_n 0, 1) := by decide +kernel
theorem dX3_read_108 : decode cX3_read 108 = .ok (.iconst 0, 1) := by decide +kernel
theorem dX3_read_109 : decode cX3_read 109 = .ok (.putfield 15, 3) := by decide +kernel
theorem dX3_read_112 : decode cX3_read 112 = .ok (.return_, 1) := by decide +kernel
theorem dX3_isItem_0 : decode cX3_isItem 0 = .ok (.aload_n 0, 1) := by decide +kernel
theorem dX3_isItem_1 : decode cX3_isItem 1 = .ok (.getfield 19, 3) := by decide +kernel
theorem dX3_isItem_4 : decode cX3_isItem 4 = .ok (.iconst (-1), 1) := by decide +kernel
theorem dX3_isItem_5 : decode cX3_isItem 5 = .ok (.if_icmp .eq 7, 3) := by decide +kernel
theorem dX3_isItem_8 : decode cX3_isItem 8 = .ok (.iconst 1, 1) := by decide +kernel
theorem dX3_isItem_9 : decode cX3_isItem 9 = .ok (.goto 4, 3) := by decide +kernel
theorem dX3_isItem_12 : decode cX3_isItem 12 = .ok (.iconst 0, 1) := by decide +kernel
theorem dX3_isItem_13 : decode cX3_isItem 13 = .ok (.ireturn, 1) := by decide +kernel
theorem dX3_kindRead_0 : decode cX3_kindRead 0 = .ok (.aload_n 0, 1) := by decide +kernel
theorem dX3_kindRead_1 : decode cX3_kindRead 1 = .ok (.getfield 19, 3) := by decide +kernel
theorem dX3_kindRead_4 : decode cX3_kindRead 4 = .ok (.ireturn, 1) := by decide +kernel
theorem dX3_operandRead_0 : decode cX3_operandRead 0 = .ok (.aload_n 0, 1) := by decide +kernel
theorem dX3_operandRead_1 : decode cX3_operandRead 1 = .ok (.getfield 22, 3) := by decide +kernel
theorem dX3_operandRead_4 : decode cX3_operandRead 4 = .ok (.ireturn, 1) := by decide +kernel
theorem dX3_errorIndex_0 : decode cX3_errorIndex 0 = .ok (.aload_n 0, 1) := by decide +kernel
theorem dX3_errorIndex_1 : decode cX3_errorIndex 1 = .ok (.getfield 25, 3) := by decide +kernel
theorem dX3_errorIndex_4 : decode cX3_errorIndex 4 = .ok (.ireturn, 1) := by decide +kernel
theorem dX3_leastLength_0 : decode cX3_leastLength 0 = .ok (.iload_n 0, 1) := by decide +kernel
theorem dX3_leastLength_1 : decode cX3_leastLength 1 = .ok (.invokestatic 45, 3) := by decide +kernel
theorem dX3_leastLength_4 : decode cX3_leastLength 4 = .ok (.invokevirtual 49, 3) := by decide +kernel
theorem dX3_leastLength_7 : decode cX3_leastLength 7 = .ok (.istore_n 1, 1) := by decide +kernel
theorem dX3_leastLength_8 : decode cX3_leastLength 8 = .ok (.iload_n 0, 1) := by decide +kernel
theorem dX3_leastLength_9 : decode cX3_leastLength 9 = .ok (.bipush 7, 2) := by decide +kernel
theorem dX3_leastLength_11 : decode cX3_leastLength 11 = .ok (.if_icmp .ne 7, 3) := by decide +kernel
theorem dX3_leastLength_14 : decode cX3_leastLength 14 = .ok (.iload_n 1, 1) := by decide +kernel
theorem dX3_leastLength_15 : decode cX3_leastLength 15 = .ok (.goto 6, 3) := by decide +kernel
theorem dX3_leastLength_18 : decode cX3_leastLength 18 = .ok (.iload_n 1, 1) := by decide +kernel
theorem dX3_leastLength_19 : decode cX3_leastLength 19 = .ok (.iconst 2, 1) := by decide +kernel
theorem dX3_leastLength_20 : decode cX3_leastLength 20 = .ok (.iadd, 1) := by decide +kernel
theorem dX3_leastLength_21 : decode cX3_leastLength 21 = .ok (.ireturn, 1) := by decide +kernel
theorem dX3_matchedBy_0 : decode cX3_matchedBy 0 = .ok (.iload_n 1, 1) := by decide +kernel
theorem dX3_matchedBy_1 : decode cX3_matchedBy 1 = .ok (.invokestatic 45, 3) := by decide +kernel
theorem dX3_matchedBy_4 : decode cX3_matchedBy 4 = .ok (.astore_n 2, 1) := by decide +kernel
theorem dX3_matchedBy_5 : decode cX3_matchedBy 5 = .ok (.iconst 0, 1) := by decide +kernel
theorem dX3_matchedBy_6 : decode cX3_matchedBy 6 = .ok (.istore_n 3, 1) := by decide +kernel
theorem dX3_matchedBy_7 : decode cX3_matchedBy 7 = .ok (.iload_n 3, 1) := by decide +kernel
theorem dX3_matchedBy_8 : decode cX3_matchedBy 8 = .ok (.aload_n 0, 1) := by decide +kernel
theorem dX3_matchedBy_9 : decode cX3_matchedBy 9 = .ok (.getfield 15, 3) := by decide +kernel
theorem dX3_matchedBy_12 : decode cX3_matchedBy 12 = .ok (.if_icmp .ge 31, 3) := by decide +kernel
theorem dX3_matchedBy_15 : decode cX3_matchedBy 15 = .ok (.iload_n 3, 1) := by decide +kernel
theorem dX3_matchedBy_16 : decode cX3_matchedBy 16 = .ok (.aload_n 2, 1) := by decide +kernel
theorem dX3_matchedBy_17 : decode cX3_matchedBy 17 = .ok (.invokevirtual 49, 3) := by decide +kernel
theorem dX3_matchedBy_20 : decode cX3_matchedBy 20 = .ok (.if_icmp .ge 23, 3) := by decide +kernel
theorem dX3_matchedBy_23 : decode cX3_matchedBy 23 = .ok (.aload_n 0, 1) := by decide +kernel
theorem dX3_matchedBy_24 : decode cX3_matchedBy 24 = .ok (.getfield 9, 3) := by decide +kernel
theorem dX3_matchedBy_27 : decode cX3_matchedBy 27 = .ok (.iload_n 3, 1) := by decide +kernel
theorem dX3_matchedBy_28 : decode cX3_matchedBy 28 = .ok (.caload, 1) := by decide +kernel
theorem dX3_matchedBy_29 : decode cX3_matchedBy 29 = .ok (.aload_n 2, 1) := by decide +kernel
theorem dX3_matchedBy_30 : decode cX3_matchedBy 30 = .ok (.iload_n 3, 1) := by decide +kernel
theorem dX3_matchedBy_31 : decode cX3_matchedBy 31 = .ok (.invokevirtual 57, 3) := by decide +kernel
theorem dX3_matchedBy_34 : decode cX3_matchedBy 34 = .ok (.if_icmp .ne 9, 3) := by decide +kernel
theorem dX3_matchedBy_37 : decode cX3_matchedBy 37 = .ok (.iinc 3 1, 3) := by decide +kernel
theorem dX3_matchedBy_40 : decode cX3_matchedBy 40 = .ok (.goto (-33), 3) := by decide +kernel
theorem dX3_matchedBy_43 : decode cX3_matchedBy 43 = .ok (.iload_n 3, 1) := by decide +kernel
theorem dX3_matchedBy_44 : decode cX3_matchedBy 44 = .ok (.aload_n 2, 1) := by decide +kernel
theorem dX3_matchedBy_45 : decode cX3_matchedBy 45 = .ok (.invokevirtual 49, 3) := by decide +kernel
theorem dX3_matchedBy_48 : decode cX3_matchedBy 48 = .ok (.if_icmp .lt 28, 3) := by decide +kernel
theorem dX3_matchedBy_51 : decode cX3_matchedBy 51 = .ok (.iload_n 1, 1) := by decide +kernel
theorem dX3_matchedBy_52 : decode cX3_matchedBy 52 = .ok (.bipush 7, 2) := by decide +kernel
theorem dX3_matchedBy_54 : decode cX3_matchedBy 54 = .ok (.if_icmp .eq 22, 3) := by decide +kernel
theorem dX3_matchedBy_57 : decode cX3_matchedBy 57 = .ok (.iload_n 3, 1) := by decide +kernel
theorem dX3_matchedBy_58 : decode cX3_matchedBy 58 = .ok (.aload_n 0, 1) := by decide +kernel
theorem dX3_matchedBy_59 : decode cX3_matchedBy 59 = .ok (.getfield 15, 3) := by decide +kernel
theorem dX3_matchedBy_62 : decode cX3_matchedBy 62 = .ok (.if_icmp .ge 14, 3) := by decide +kernel
theorem dX3_matchedBy_65 : decode cX3_matchedBy 65 = .ok (.aload_n 0, 1) := by decide +kernel
theorem dX3_matchedBy_66 : decode cX3_matchedBy 66 = .ok (.getfield 9, 3) := by decide +kernel
theorem dX3_matchedBy_69 : decode cX3_matchedBy 69 = .ok (.iload_n 3, 1) := by decide +kernel
theorem dX3_matchedBy_70 : decode cX3_matchedBy 70 = .ok (.caload, 1) := by decide +kernel
theorem dX3_matchedBy_71 : decode cX3_matchedBy 71 = .ok (.bipush 32, 2) := by decide +kernel
theorem dX3_matchedBy_73 : decode cX3_matchedBy 73 = .ok (.if_icmp .eq 5, 3) := by decide +kernel
theorem dX3_matchedBy_76 : decode cX3_matchedBy 76 = .ok (.iload_n 3, 1) := by decide +kernel
theorem dX3_matchedBy_77 : decode cX3_matchedBy 77 = .ok (.ireturn, 1) := by decide +kernel
theorem dX3_matchedBy_78 : decode cX3_matchedBy 78 = .ok (.iinc 3 1, 3) := by decide +kernel
theorem dX3_matchedBy_81 : decode cX3_matchedBy 81 = .ok (.aload_n 0, 1) := by decide +kernel
theorem dX3_matchedBy_82 : decode cX3_matchedBy 82 = .ok (.getfield 15, 3) := by decide +kernel
theorem dX3_matchedBy_85 : decode cX3_matchedBy 85 = .ok (.aload_n 2, 1) := by decide +kernel
theorem dX3_matchedBy_86 : decode cX3_matchedBy 86 = .ok (.invokevirtual 49, 3) := by decide +kernel
theorem dX3_matchedBy_89 : decode cX3_matchedBy 89 = .ok (.iconst 3, 1) := by decide +kernel
theorem dX3_matchedBy_90 : decode cX3_matchedBy 90 = .ok (.iadd, 1) := by decide +kernel
theorem dX3_matchedBy_91 : decode cX3_matchedBy 91 = .ok (.invokestatic 61, 3) := by decide +kernel
theorem dX3_matchedBy_94 : decode cX3_matchedBy 94 = .ok (.istore 4, 2) := by decide +kernel
theorem dX3_matchedBy_96 : decode cX3_matchedBy 96 = .ok (.iload_n 3, 1) := by decide +kernel
theorem dX3_matchedBy_97 : decode cX3_matchedBy 97 = .ok (.iload 4, 2) := by decide +kernel
theorem dX3_matchedBy_99 : decode cX3_matchedBy 99 = .ok (.if_icmp .ge 31, 3) := by decide +kernel
theorem dX3_matchedBy_102 : decode cX3_matchedBy 102 = .ok (.aload_n 0, 1) := by decide +kernel
theorem dX3_matchedBy_103 : decode cX3_matchedBy 103 = .ok (.getfield 9, 3) := by decide +kernel
theorem dX3_matchedBy_106 : decode cX3_matchedBy 106 = .ok (.iload_n 3, 1) := by decide +kernel
theorem dX3_matchedBy_107 : decode cX3_matchedBy 107 = .ok (.caload, 1) := by decide +kernel
theorem dX3_matchedBy_108 : decode cX3_matchedBy 108 = .ok (.bipush 48, 2) := by decide +kernel
theorem dX3_matchedBy_110 : decode cX3_matchedBy 110 = .ok (.if_icmp .lt 20, 3) := by decide +kernel
theorem dX3_matchedBy_113 : decode cX3_matchedBy 113 = .ok (.aload_n 0, 1) := by decide +kernel
theorem dX3_matchedBy_114 : decode cX3_matchedBy 114 = .ok (.getfield 9, 3) := by decide +kernel
theorem dX3_matchedBy_117 : decode cX3_matchedBy 117 = .ok (.iload_n 3, 1) := by decide +kernel
theorem dX3_matchedBy_118 : decode cX3_matchedBy 118 = .ok (.caload, 1) := by decide +kernel
theorem dX3_matchedBy_119 : decode cX3_matchedBy 119 = .ok (.bipush 57, 2) := by decide +kernel
theorem dX3_matchedBy_121 : decode cX3_matchedBy 121 = .ok (.if_icmp .gt 9, 3) := by decide +kernel
theorem dX3_matchedBy_124 : decode cX3_matchedBy 124 = .ok (.iinc 3 1, 3) := by decide +kernel
theorem dX3_matchedBy_127 : decode cX3_matchedBy 127 = .ok (.goto (-31), 3) := by decide +kernel
theorem dX3_matchedBy_130 : decode cX3_matchedBy 130 = .ok (.iload_n 3, 1) := by decide +kernel
theorem dX3_matchedBy_131 : decode cX3_matchedBy 131 = .ok (.ireturn, 1) := by decide +kernel
theorem dX3_numberFrom_0 : decode cX3_numberFrom 0 = .ok (.iconst 0, 1) := by decide +kernel
theorem dX3_numberFrom_1 : decode cX3_numberFrom 1 = .ok (.istore_n 2, 1) := by decide +kernel
theorem dX3_numberFrom_2 : decode cX3_numberFrom 2 = .ok (.iload_n 1, 1) := by decide +kernel
theorem dX3_numberFrom_3 : decode cX3_numberFrom 3 = .ok (.istore_n 3, 1) := by decide +kernel
theorem dX3_numberFrom_4 : decode cX3_numberFrom 4 = .ok (.iload_n 3, 1) := by decide +kernel
theorem dX3_numberFrom_5 : decode cX3_numberFrom 5 = .ok (.aload_n 0, 1) := by decide +kernel
theorem dX3_numberFrom_6 : decode cX3_numberFrom 6 = .ok (.getfield 15, 3) := by decide +kernel
theorem dX3_numberFrom_9 : decode cX3_numberFrom 9 = .ok (.if_icmp .ge 24, 3) := by decide +kernel
theorem dX3_numberFrom_12 : decode cX3_numberFrom 12 = .ok (.iload_n 2, 1) := by decide +kernel
theorem dX3_numberFrom_13 : decode cX3_numberFrom 13 = .ok (.bipush 10, 2) := by decide +kernel
theorem dX3_numberFrom_15 : decode cX3_numberFrom 15 = .ok (.imul, 1) := by decide +kernel
theorem dX3_numberFrom_16 : decode cX3_numberFrom 16 = .ok (.aload_n 0, 1) := by decide +kernel
theorem dX3_numberFrom_17 : decode cX3_numberFrom 17 = .ok (.getfield 9, 3) := by decide +kernel
theorem dX3_numberFrom_20 : decode cX3_numberFrom 20 = .ok (.iload_n 3, 1) := by decide +kernel
theorem dX3_numberFrom_21 : decode cX3_numberFrom 21 = .ok (.caload, 1) := by decide +kernel
theorem dX3_numberFrom_22 : decode cX3_numberFrom 22 = .ok (.bipush 48, 2) := by decide +kernel
theorem dX3_numberFrom_24 : decode cX3_numberFrom 24 = .ok (.isub, 1) := by decide +kernel
theorem dX3_numberFrom_25 : decode cX3_numberFrom 25 = .ok (.iadd, 1) := by decide +kernel
theorem dX3_numberFrom_26 : decode cX3_numberFrom 26 = .ok (.istore_n 2, 1) := by decide +kernel
theorem dX3_numberFrom_27 : decode cX3_numberFrom 27 = .ok (.iinc 3 1, 3) := by decide +kernel
theorem dX3_numberFrom_30 : decode cX3_numberFrom 30 = .ok (.goto (-26), 3) := by decide +kernel
theorem dX3_numberFrom_33 : decode cX3_numberFrom 33 = .ok (.iload_n 2, 1) := by decide +kernel
theorem dX3_numberFrom_34 : decode cX3_numberFrom 34 = .ok (.ireturn, 1) := by decide +kernel
end
section
theorem dX4_init_0 : decode cX4_init 0 = .ok (.aload_n 0, 1) := by decide +kernel
theorem dX4_init_1 : decode cX4_init 1 = .ok (.invokespecial 3, 3) := by decide +kernel
theorem dX4_init_4 : decode cX4_init 4 = .ok (.aload_n 0, 1) := by decide +kernel
theorem dX4_init_5 : decode cX4_init 5 = .ok (.bipush 41, 2) := by decide +kernel
theorem dX4_init_7 : decode cX4_init 7 = .ok (.newarray .int, 2) := by decide +kernel
theorem dX4_init_9 : decode cX4_init 9 = .ok (.putfield 9, 3) := by decide +kernel
theorem dX4_init_12 : decode cX4_init 12 = .ok (.aload_n 0, 1) := by decide +kernel
theorem dX4_init_13 : decode cX4_init 13 = .ok (.aload_n 1, 1) := by decide +kernel
theorem dX4_init_14 : decode cX4_init 14 = .ok (.putfield 15, 3) := by decide +kernel
theorem dX4_init_17 : decode cX4_init 17 = .ok (.aload_n 0, 1) := by decide +kernel
theorem dX4_init_18 : decode cX4_init 18 = .ok (.aload_n 2, 1) := by decide +kernel
theorem dX4_init_19 : decode cX4_init 19 = .ok (.putfield 19, 3) := by decide +kernel
theorem dX4_init_22 : decode cX4_init 22 = .ok (.return_, 1) := by decide +kernel
theorem dX4_compute_0 : decode cX4_compute 0 = .ok (.iconst 0, 1) := by decide +kernel
theorem dX4_compute_1 : decode cX4_compute 1 = .ok (.istore_n 1, 1) := by decide +kernel
theorem dX4_compute_2 : decode cX4_compute 2 = .ok (.aload_n 0, 1) := by decide +kernel
theorem dX4_compute_3 : decode cX4_compute 3 = .ok (.getfield 15, 3) := by decide +kernel
theorem dX4_compute_6 : decode cX4_compute 6 = .ok (.invokevirtual 23, 3) := by decide +kernel
theorem dX4_compute_9 : decode cX4_compute 9 = .ok (.istore_n 2, 1) := by decide +kernel
theorem dX4_compute_10 : decode cX4_compute 10 = .ok (.iconst 0, 1) := by decide +kernel
theorem dX4_compute_11 : decode cX4_compute 11 = .ok (.istore_n 3, 1) := by decide +kernel
theorem dX4_compute_12 : decode cX4_compute 12 = .ok (.iload_n 3, 1) := by decide +kernel
theorem dX4_compute_13 : decode cX4_compute 13 = .ok (.iload_n 2, 1) := by decide +kernel
theorem dX4_compute_14 : decode cX4_compute 14 = .ok (.if_icmp .ge 33, 3) := by decide +kernel
theorem dX4_compute_17 : decode cX4_compute 17 = .ok (.aload_n 0, 1) := by decide +kernel
theorem dX4_compute_18 : decode cX4_compute 18 = .ok (.getfield 9, 3) := by decide +kernel
theorem dX4_compute_21 : decode cX4_compute 21 = .ok (.iload_n 3, 1) := by decide +kernel
theorem dX4_compute_22 : decode cX4_compute 22 = .ok (.iload_n 1, 1) := by decide +kernel
theorem dX4_compute_23 : decode cX4_compute 23 = .ok (.iastore, 1) := by decide +kernel
theorem dX4_compute_24 : decode cX4_compute 24 = .ok (.iload_n 1, 1) := by decide +kernel
theorem dX4_compute_25 : decode cX4_compute 25 = .ok (.aload_n 0, 1) := by decide +kernel
theorem dX4_compute_26 : decode cX4_compute 26 = .ok (.iload_n 3, 1) := by decide +kernel
theorem dX4_compute_27 : decode cX4_compute 27 = .ok (.aload_n 0, 1) := by decide +kernel
theorem dX4_compute_28 : decode cX4_compute 28 = .ok (.getfield 15, 3) := by decide +kernel
theorem dX4_compute_31 : decode cX4_compute 31 = .ok (.iload_n 3, 1) := by decide +kernel
theorem dX4_compute_32 : decode cX4_compute 32 = .ok (.invokevirtual 29, 3) := by decide +kernel
theorem dX4_compute_35 : decode cX4_compute 35 = .ok (.iload_n 1, 1) := by decide +kernel
theorem dX4_compute_36 : decode cX4_compute 36 = .ok (.invokevirtual 33, 3) := by decide +kernel
theorem dX4_compute_39 : decode cX4_compute 39 = .ok (.iadd, 1) := by decide +kernel
theorem dX4_compute_40 : decode cX4_compute 40 = .ok (.istore_n 1, 1) := by decide +kernel
theorem dX4_compute_41 : decode cX4_compute 41 = .ok (.iinc 3 1, 3) := by decide +kernel
theorem dX4_compute_44 : decode cX4_compute 44 = .ok (.goto (-32), 3) := by decide +kernel
theorem dX4_compute_47 : decode cX4_compute 47 = .ok (.aload_n 0, 1) := by decide +kernel
theorem dX4_compute_48 : decode cX4_compute 48 = .ok (.getfield 9, 3) := by decide +kernel
theorem dX4_compute_51 : decode cX4_compute 51 = .ok (.iload_n 2, 1) := by decide +kernel
theorem dX4_compute_52 : decode cX4_compute 52 = .ok (.iload_n 1, 1) := by decide +kernel
theorem dX4_compute_53 : decode cX4_compute 53 = .ok (.iastore, 1) := by decide +kernel
theorem dX4_compute_54 : decode cX4_compute 54 = .ok (.return_, 1) := by decide +kernel
theorem dX4_sizeWith_0 : decode cX4_sizeWith 0 = .ok (.aload_n 0, 1) := by decide +kernel
theorem dX4_sizeWith_1 : decode cX4_sizeWith 1 = .ok (.getfield 15, 3) := by decide +kernel
theorem dX4_sizeWith_4 : decode cX4_sizeWith 4 = .ok (.iload_n 1, 1) := by decide +kernel
theorem dX4_sizeWith_5 : decode cX4_sizeWith 5 = .ok (.invokevirtual 37, 3) := by decide +kernel
theorem dX4_sizeWith_8 : decode cX4_sizeWith 8 = .ok (.tableswitch 98 0 7 #[48, 48, 98, 57, 72, 77, 82, 84], 48) := by decide +kernel
theorem dX4_sizeWith_56 : decode cX4_sizeWith 56 = .ok (.aload_n 0, 1) := by decide +kernel
theorem dX4_sizeWith_57 : decode cX4_sizeWith 57 = .ok (.getfield 15, 3) := by decide +kernel
theorem dX4_sizeWith_60 : decode cX4_sizeWith 60 = .ok (.iload_n 1, 1) := by decide +kernel
theorem dX4_sizeWith_61 : decode cX4_sizeWith 61 = .ok (.invokevirtual 40, 3) := by decide +kernel
theorem dX4_sizeWith_64 : decode cX4_sizeWith 64 = .ok (.ireturn, 1) := by decide +kernel
theorem dX4_sizeWith_65 : decode cX4_sizeWith 65 = .ok (.iload_n 3, 1) := by decide +kernel
theorem dX4_sizeWith_66 : decode cX4_sizeWith 66 = .ok (.iconst 1, 1) := by decide +kernel
theorem dX4_sizeWith_67 : decode cX4_sizeWith 67 = .ok (.aload_n 0, 1) := by decide +kernel
theorem dX4_sizeWith_68 : decode cX4_sizeWith 68 = .ok (.getfield 15, 3) := by decide +kernel
theorem dX4_sizeWith_71 : decode cX4_sizeWith 71 = .ok (.iload_n 1, 1) := by decide +kernel
theorem dX4_sizeWith_72 : decode cX4_sizeWith 72 = .ok (.invokevirtual 40, 3) := by decide +kernel
theorem dX4_sizeWith_75 : decode cX4_sizeWith 75 = .ok (.ishl, 1) := by decide +kernel
theorem dX4_sizeWith_76 : decode cX4_sizeWith 76 = .ok (.invokestatic 43, 3) := by decide +kernel
theorem dX4_sizeWith_79 : decode cX4_sizeWith 79 = .ok (.ireturn, 1) := by decide +kernel
theorem dX4_sizeWith_80 : decode cX4_sizeWith 80 = .ok (.iload_n 2, 1) := by decide +kernel
theorem dX4_sizeWith_81 : decode cX4_sizeWith 81 = .ok (.invokestatic 47, 3) := by decide +kernel
theorem dX4_sizeWith_84 : decode cX4_sizeWith 84 = .ok (.ireturn, 1) := by decide +kernel
theorem dX4_sizeWith_85 : decode cX4_sizeWith 85 = .ok (.iload_n 2, 1) := by decide +kernel
theorem dX4_sizeWith_86 : decode cX4_sizeWith 86 = .ok (.invokestatic 50, 3) := by decide +kernel
theorem dX4_sizeWith_89 : decode cX4_sizeWith 89 = .ok (.ireturn, 1) := by decide +kernel
theorem dX4_sizeWith_90 : decode cX4_sizeWith 90 = .ok (.iconst 2, 1) := by decide +kernel
theorem dX4_sizeWith_91 : decode cX4_sizeWith 91 = .ok (.ireturn, 1) := by decide +kernel
theorem dX4_sizeWith_92 : decode cX4_sizeWith 92 = .ok (.aload_n 0, 1) := by decide +kernel
theorem dX4_sizeWith_93 : decode cX4_sizeWith 93 = .ok (.aload_n 0, 1) := by decide +kernel
theorem dX4_sizeWith_94 : decode cX4_sizeWith 94 = .ok (.getfield 19, 3) := by decide +kernel
theorem dX4_sizeWith_97 : decode cX4_sizeWith 97 = .ok (.iload_n 1, 1) := by decide +kernel
theorem dX4_sizeWith_98 : decode cX4_sizeWith 98 = .ok (.invokevirtual 53, 3) := by decide +kernel
theorem dX4_sizeWith_101 : decode cX4_sizeWith 101 = .ok (.iload_n 3, 1) := by decide +kernel
theorem dX4_sizeWith_102 : decode cX4_sizeWith 102 = .ok (.invokevirtual 58, 3) := by decide +kernel
theorem dX4_sizeWith_105 : decode cX4_sizeWith 105 = .ok (.ireturn, 1) := by decide +kernel
theorem dX4_sizeWith_106 : decode cX4_sizeWith 106 = .ok (.iconst 0, 1) := by decide +kernel
theorem dX4_sizeWith_107 : decode cX4_sizeWith 107 = .ok (.ireturn, 1) := by decide +kernel
theorem dX4_poolSize_0 : decode cX4_poolSize 0 = .ok (.aload_n 0, 1) := by decide +kernel
theorem dX4_poolSize_1 : decode cX4_poolSize 1 = .ok (.getfield 19, 3) := by decide +kernel
theorem dX4_poolSize_4 : decode cX4_poolSize 4 = .ok (.iload_n 1, 1) := by decide +kernel
theorem dX4_poolSize_5 : decode cX4_poolSize 5 = .ok (.invokevirtual 61, 3) := by decide +kernel
theorem dX4_poolSize_8 : decode cX4_poolSize 8 = .ok (.istore_n 3, 1) := by decide +kernel
theorem dX4_poolSize_9 : decode cX4_poolSize 9 = .ok (.iload_n 3, 1) := by decide +kernel
theorem dX4_poolSize_10 : decode cX4_poolSize 10 = .ok (.ifCond .ne 7, 3) := by decide +kernel
theorem dX4_poolSize_13 : decode cX4_poolSize 13 = .ok (.iconst 0, 1) := by decide +kernel
theorem dX4_poolSize_14 : decode cX4_poolSize 14 = .ok (.goto 12, 3) := by decide +kernel
theorem dX4_poolSize_17 : decode cX4_poolSize 17 = .ok (.iload_n 2, 1) := by decide +kernel
theorem dX4_poolSize_18 : decode cX4_poolSize 18 = .ok (.iconst 4, 1) := by decide +kernel
theorem dX4_poolSize_19 : decode cX4_poolSize 19 = .ok (.invokestatic 43, 3) := by decide +kernel
theorem dX4_poolSize_22 : decode cX4_poolSize 22 = .ok (.iconst 4, 1) := by decide +kernel
theorem dX4_poolSize_23 : decode cX4_poolSize 23 = .ok (.iload_n 3, 1) := by decide +kernel
theorem dX4_poolSize_24 : decode cX4_poolSize 24 = .ok (.imul, 1) := by decide +kernel
theorem dX4_poolSize_25 : decode cX4_poolSize 25 = .ok (.iadd, 1) := by decide +kernel
theorem dX4_poolSize_26 : decode cX4_poolSize 26 = .ok (.ireturn, 1) := by decide +kernel
theorem dX4_addressAt_0 : decode cX4_addressAt 0 = .ok (.iload_n 1, 1) := by decide +kernel
theorem dX4_addressAt_1 : decode cX4_addressAt 1 = .ok (.ifCond .lt 18, 3) := by decide +kernel
theorem dX4_addressAt_4 : decode cX4_addressAt 4 = .ok (.iload_n 1, 1) := by decide +kernel
theorem dX4_addressAt_5 : decode cX4_addressAt 5 = .ok (.bipush 40, 2) := by decide +kernel
theorem dX4_addressAt_7 : decode cX4_addressAt 7 = .ok (.if_icmp .gt 12, 3) := by decide +kernel
theorem dX4_addressAt_10 : decode cX4_addressAt 10 = .ok (.aload_n 0, 1) := by decide +kernel
theorem dX4_addressAt_11 : decode cX4_addressAt 11 = .ok (.getfield 9, 3) := by decide +kernel
theorem dX4_addressAt_14 : decode cX4_addressAt 14 = .ok (.iload_n 1, 1) := by decide +kernel
theorem dX4_addressAt_15 : decode cX4_addressAt 15 = .ok (.iaload, 1) := by decide +kernel
theorem dX4_addressAt_16 : decode cX4_addressAt 16 = .ok (.goto 4, 3) := by decide +kernel
theorem dX4_addressAt_19 : decode cX4_addressAt 19 = .ok (.iconst 0, 1) := by decide +kernel
theorem dX4_addressAt_20 : decode cX4_addressAt 20 = .ok (.ireturn, 1) := by decide +kernel
theorem dX4_sizeAt_0 : decode cX4_sizeAt 0 = .ok (.aload_n 0, 1) := by decide +kernel
theorem dX4_sizeAt_1 : decode cX4_sizeAt 1 = .ok (.iload_n 1, 1) := by decide +kernel
theorem dX4_sizeAt_2 : decode cX4_sizeAt 2 = .ok (.iconst 1, 1) := by decide +kernel
theorem dX4_sizeAt_3 : decode cX4_sizeAt 3 = .ok (.iadd, 1) := by decide +kernel
theorem dX4_sizeAt_4 : decode cX4_sizeAt 4 = .ok (.invokevirtual 64, 3) := by decide +kernel
theorem dX4_sizeAt_7 : decode cX4_sizeAt 7 = .ok (.aload_n 0, 1) := by decide +kernel
theorem dX4_sizeAt_8 : decode cX4_sizeAt 8 = .ok (.iload_n 1, 1) := by decide +kernel
theorem dX4_sizeAt_9 : decode cX4_sizeAt 9 = .ok (.invokevirtual 64, 3) := by decide +kernel
theorem dX4_sizeAt_12 : decode cX4_sizeAt 12 = .ok (.isub, 1) := by decide +kernel
theorem dX4_sizeAt_13 : decode cX4_sizeAt 13 = .ok (.ireturn, 1) := by decide +kernel
theorem dX4_sizeOfItems_0 : decode cX4_sizeOfItems 0 = .ok (.aload_n 0, 1) := by decide +kernel
theorem dX4_sizeOfItems_1 : decode cX4_sizeOfItems 1 = .ok (.aload_n 0, 1) := by decide +kernel
theorem dX4_sizeOfItems_2 : decode cX4_sizeOfItems 2 = .ok (.getfield 15, 3) := by decide +kernel
theorem dX4_sizeOfItems_5 : decode cX4_sizeOfItems 5 = .ok (.invokevirtual 23, 3) := by decide +kernel
theorem dX4_sizeOfItems_8 : decode cX4_sizeOfItems 8 = .ok (.invokevirtual 64, 3) := by decide +kernel
theorem dX4_sizeOfItems_11 : decode cX4_sizeOfItems 11 = .ok (.ireturn, 1) := by decide +kernel
theorem dX4_sizeWithEndPool_0 : decode cX4_sizeWithEndPool 0 = .ok (.aload_n 0, 1) := by decide +kernel
theorem dX4_sizeWithEndPool_1 : decode cX4_sizeWithEndPool 1 = .ok (.invokevirtual 67, 3) := by decide +kernel
theorem dX4_sizeWithEndPool_4 : decode cX4_sizeWithEndPool 4 = .ok (.aload_n 0, 1) := by decide +kernel
theorem dX4_sizeWithEndPool_5 : decode cX4_sizeWithEndPool 5 = .ok (.aload_n 0, 1) := by decide +kernel
theorem dX4_sizeWithEndPool_6 : decode cX4_sizeWithEndPool 6 = .ok (.getfield 19, 3) := by decide +kernel
theorem dX4_sizeWithEndPool_9 : decode cX4_sizeWithEndPool 9 = .ok (.invokevirtual 70, 3) := by decide +kernel
theorem dX4_sizeWithEndPool_12 : decode cX4_sizeWithEndPool 12 = .ok (.aload_n 0, 1) := by decide +kernel
theorem dX4_sizeWithEndPool_13 : decode cX4_sizeWithEndPool 13 = .ok (.invokevirtual 67, 3) := by decide +kernel
theorem dX4_sizeWithEndPool_16 : decode cX4_sizeWithEndPool 16 = .ok (.invokevirtual 58, 3) := by decide +kernel
theorem dX4_sizeWithEndPool_19 : decode cX4_sizeWithEndPool 19 = .ok (.iadd, 1) := by decide +kernel
theorem dX4_sizeWithEndPool_20 : decode cX4_sizeWithEndPool 20 = .ok (.ireturn, 1) := by decide +kernel
theorem dX4_paddingBytes_0 : decode cX4_paddingBytes 0 = .ok (.iconst 0, 1) := by decide +kernel
theorem dX4_paddingBytes_1 : decode cX4_paddingBytes 1 = .ok (.istore_n 1, 1) := by decide +kernel
theorem dX4_paddingBytes_2 : decode cX4_paddingBytes 2 = .ok (.iconst 0, 1) := by decide +kernel
theorem dX4_paddingBytes_3 : decode cX4_paddingBytes 3 = .ok (.istore_n 2, 1) := by decide +kernel
theorem dX4_paddingBytes_4 : decode cX4_paddingBytes 4 = .ok (.iload_n 2, 1) := by decide +kernel
theorem dX4_paddingBytes_5 : decode cX4_paddingBytes 5 = .ok (.aload_n 0, 1) := by decide +kernel
theorem dX4_paddingBytes_6 : decode cX4_paddingBytes 6 = .ok (.getfield 15, 3) := by decide +kernel
theorem dX4_paddingBytes_9 : decode cX4_paddingBytes 9 = .ok (.invokevirtual 23, 3) := by decide +kernel
theorem dX4_paddingBytes_12 : decode cX4_paddingBytes 12 = .ok (.if_icmp .ge 29, 3) := by decide +kernel
theorem dX4_paddingBytes_15 : decode cX4_paddingBytes 15 = .ok (.aload_n 0, 1) := by decide +kernel
theorem dX4_paddingBytes_16 : decode cX4_paddingBytes 16 = .ok (.getfield 15, 3) := by decide +kernel
theorem dX4_paddingBytes_19 : decode cX4_paddingBytes 19 = .ok (.iload_n 2, 1) := by decide +kernel
theorem dX4_paddingBytes_20 : decode cX4_paddingBytes 20 = .ok (.invokevirtual 37, 3) := by decide +kernel
theorem dX4_paddingBytes_23 : decode cX4_paddingBytes 23 = .ok (.iconst 3, 1) := by decide +kernel
theorem dX4_paddingBytes_24 : decode cX4_paddingBytes 24 = .ok (.if_icmp .ne 11, 3) := by decide +kernel
theorem dX4_paddingBytes_27 : decode cX4_paddingBytes 27 = .ok (.iload_n 1, 1) := by decide +kernel
theorem dX4_paddingBytes_28 : decode cX4_paddingBytes 28 = .ok (.aload_n 0, 1) := by decide +kernel
theorem dX4_paddingBytes_29 : decode cX4_paddingBytes 29 = .ok (.iload_n 2, 1) := by decide +kernel
theorem dX4_paddingBytes_30 : decode cX4_paddingBytes 30 = .ok (.invokevirtual 73, 3) := by decide +kernel
theorem dX4_paddingBytes_33 : decode cX4_paddingBytes 33 = .ok (.iadd, 1) := by decide +kernel
theorem dX4_paddingBytes_34 : decode cX4_paddingBytes 34 = .ok (.istore_n 1, 1) := by decide +kernel
theorem dX4_paddingBytes_35 : decode cX4_paddingBytes 35 = .ok (.iinc 2 1, 3) := by decide +kernel
theorem dX4_paddingBytes_38 : decode cX4_paddingBytes 38 = .ok (.goto (-34), 3) := by decide +kernel
theorem dX4_paddingBytes_41 : decode cX4_paddingBytes 41 = .ok (.iconst 0, 1) := by decide +kernel
theorem dX4_paddingBytes_42 : decode cX4_paddingBytes 42 = .ok (.istore_n 2, 1) := by decide +kernel
theorem dX4_paddingBytes_43 : decode cX4_paddingBytes 43 = .ok (.iload_n 2, 1) := by decide +kernel
theorem dX4_paddingBytes_44 : decode cX4_paddingBytes 44 = .ok (.aload_n 0, 1) := by decide +kernel
theorem dX4_paddingBytes_45 : decode cX4_paddingBytes 45 = .ok (.getfield 19, 3) := by decide +kernel
theorem dX4_paddingBytes_48 : decode cX4_paddingBytes 48 = .ok (.invokevirtual 70, 3) := by decide +kernel
theorem dX4_paddingBytes_51 : decode cX4_paddingBytes 51 = .ok (.if_icmp .gt 42, 3) := by decide +kernel
theorem dX4_paddingBytes_54 : decode cX4_paddingBytes 54 = .ok (.aload_n 0, 1) := by decide +kernel
theorem dX4_paddingBytes_55 : decode cX4_paddingBytes 55 = .ok (.iload_n 2, 1) := by decide +kernel
theorem dX4_paddingBytes_56 : decode cX4_paddingBytes 56 = .ok (.aload_n 0, 1) := by decide +kernel
theorem dX4_paddingBytes_57 : decode cX4_paddingBytes 57 = .ok (.aload_n 0, 1) := by decide +kernel
theorem dX4_paddingBytes_58 : decode cX4_paddingBytes 58 = .ok (.getfield 19, 3) := by decide +kernel
theorem dX4_paddingBytes_61 : decode cX4_paddingBytes 61 = .ok (.iload_n 2, 1) := by decide +kernel
theorem dX4_paddingBytes_62 : decode cX4_paddingBytes 62 = .ok (.invokevirtual 76, 3) := by decide +kernel
theorem dX4_paddingBytes_65 : decode cX4_paddingBytes 65 = .ok (.invokevirtual 64, 3) := by decide +kernel
theorem dX4_paddingBytes_68 : decode cX4_paddingBytes 68 = .ok (.invokevirtual 58, 3) := by decide +kernel
theorem dX4_paddingBytes_71 : decode cX4_paddingBytes 71 = .ok (.istore_n 3, 1) := by decide +kernel
theorem dX4_paddingBytes_72 : decode cX4_paddingBytes 72 = .ok (.iload_n 1, 1) := by decide +kernel
theorem dX4_paddingBytes_73 : decode cX4_paddingBytes 73 = .ok (.iload_n 3, 1) := by decide +kernel
theorem dX4_paddingBytes_74 : decode cX4_paddingBytes 74 = .ok (.iconst 4, 1) := by decide +kernel
theorem dX4_paddingBytes_75 : decode cX4_paddingBytes 75 = .ok (.aload_n 0, 1) := by decide +kernel
theorem dX4_paddingBytes_76 : decode cX4_paddingBytes 76 = .ok (.getfield 19, 3) := by decide +kernel
theorem dX4_paddingBytes_79 : decode cX4_paddingBytes 79 = .ok (.iload_n 2, 1) := by decide +kernel
theorem dX4_paddingBytes_80 : decode cX4_paddingBytes 80 = .ok (.invokevirtual 61, 3) := by decide +kernel
theorem dX4_paddingBytes_83 : decode cX4_paddingBytes 83 = .ok (.imul, 1) := by decide +kernel
theorem dX4_paddingBytes_84 : decode cX4_paddingBytes 84 = .ok (.isub, 1) := by decide +kernel
theorem dX4_paddingBytes_85 : decode cX4_paddingBytes 85 = .ok (.iadd, 1) := by decide +kernel
theorem dX4_paddingBytes_86 : decode cX4_paddingBytes 86 = .ok (.istore_n 1, 1) := by decide +kernel
theorem dX4_paddingBytes_87 : decode cX4_paddingBytes 87 = .ok (.iinc 2 1, 3) := by decide +kernel
theorem dX4_paddingBytes_90 : decode cX4_paddingBytes 90 = .ok (.goto (-47), 3) := by decide +kernel
theorem dX4_paddingBytes_93 : decode cX4_paddingBytes 93 = .ok (.iload_n 1, 1) := by decide +kernel
theorem dX4_paddingBytes_94 : decode cX4_paddingBytes 94 = .ok (.ireturn, 1) := by decide +kernel
theorem dX4_lastItemUpTo_0 : decode cX4_lastItemUpTo 0 = .ok (.iconst 0, 1) := by decide +kernel
theorem dX4_lastItemUpTo_1 : decode cX4_lastItemUpTo 1 = .ok (.istore_n 2, 1) := by decide +kernel
theorem dX4_lastItemUpTo_2 : decode cX4_lastItemUpTo 2 = .ok (.iconst 0, 1) := by decide +kernel
theorem dX4_lastItemUpTo_3 : decode cX4_lastItemUpTo 3 = .ok (.istore_n 3, 1) := by decide +kernel
theorem dX4_lastItemUpTo_4 : decode cX4_lastItemUpTo 4 = .ok (.iload_n 3, 1) := by decide +kernel
theorem dX4_lastItemUpTo_5 : decode cX4_lastItemUpTo 5 = .ok (.aload_n 0, 1) := by decide +kernel
theorem dX4_lastItemUpTo_6 : decode cX4_lastItemUpTo 6 = .ok (.getfield 15, 3) := by decide +kernel
theorem dX4_lastItemUpTo_9 : decode cX4_lastItemUpTo 9 = .ok (.invokevirtual 23, 3) := by decide +kernel
theorem dX4_lastItemUpTo_12 : decode cX4_lastItemUpTo 12 = .ok (.if_icmp .ge 21, 3) := by decide +kernel
theorem dX4_lastItemUpTo_15 : decode cX4_lastItemUpTo 15 = .ok (.aload_n 0, 1) := by decide +kernel
theorem dX4_lastItemUpTo_16 : decode cX4_lastItemUpTo 16 = .ok (.getfield 9, 3) := by decide +kernel
theorem dX4_lastItemUpTo_19 : decode cX4_lastItemUpTo 19 = .ok (.iload_n 3, 1) := by decide +kernel
theorem dX4_lastItemUpTo_20 : decode cX4_lastItemUpTo 20 = .ok (.iaload, 1) := by decide +kernel
theorem dX4_lastItemUpTo_21 : decode cX4_lastItemUpTo 21 = .ok (.iload_n 1, 1) := by decide +kernel
theorem dX4_lastItemUpTo_22 : decode cX4_lastItemUpTo 22 = .ok (.if_icmp .gt 5, 3) := by decide +kernel
theorem dX4_lastItemUpTo_25 : decode cX4_lastItemUpTo 25 = .ok (.iload_n 3, 1) := by decide +kernel
theorem dX4_lastItemUpTo_26 : decode cX4_lastItemUpTo 26 = .ok (.istore_n 2, 1) := by decide +kernel
theorem dX4_lastItemUpTo_27 : decode cX4_lastItemUpTo 27 = .ok (.iinc 3 1, 3) := by decide +kernel
theorem dX4_lastItemUpTo_30 : decode cX4_lastItemUpTo 30 = .ok (.goto (-26), 3) := by decide +kernel
theorem dX4_lastItemUpTo_33 : decode cX4_lastItemUpTo 33 = .ok (.iload_n 2, 1) := by decide +kernel
theorem dX4_lastItemUpTo_34 : decode cX4_lastItemUpTo 34 = .ok (.ireturn, 1) := by decide +kernel
theorem dX4_addressWith_0 : decode cX4_addressWith 0 = .ok (.iconst 0, 1) := by decide +kernel
theorem dX4_addressWith_1 : decode cX4_addressWith 1 = .ok (.istore_n 3, 1) := by decide +kernel
theorem dX4_addressWith_2 : decode cX4_addressWith 2 = .ok (.iconst 0, 1) := by decide +kernel
theorem dX4_addressWith_3 : decode cX4_addressWith 3 = .ok (.istore 4, 2) := by decide +kernel
theorem dX4_addressWith_5 : decode cX4_addressWith 5 = .ok (.iload 4, 2) := by decide +kernel
theorem dX4_addressWith_7 : decode cX4_addressWith 7 = .ok (.iload_n 1, 1) := by decide +kernel
theorem dX4_addressWith_8 : decode cX4_addressWith 8 = .ok (.if_icmp .ge 32, 3) := by decide +kernel
theorem dX4_addressWith_11 : decode cX4_addressWith 11 = .ok (.iload 4, 2) := by decide +kernel
theorem dX4_addressWith_13 : decode cX4_addressWith 13 = .ok (.aload_n 0, 1) := by decide +kernel
theorem dX4_addressWith_14 : decode cX4_addressWith 14 = .ok (.getfield 15, 3) := by decide +kernel
theorem dX4_addressWith_17 : decode cX4_addressWith 17 = .ok (.invokevirtual 23, 3) := by decide +kernel
theorem dX4_addressWith_20 : decode cX4_addressWith 20 = .ok (.if_icmp .ge 20, 3) := by decide +kernel
theorem dX4_addressWith_23 : decode cX4_addressWith 23 = .ok (.iload_n 3, 1) := by decide +kernel
theorem dX4_addressWith_24 : decode cX4_addressWith 24 = .ok (.aload_n 0, 1) := by decide +kernel
theorem dX4_addressWith_25 : decode cX4_addressWith 25 = .ok (.iload 4, 2) := by decide +kernel
theorem dX4_addressWith_27 : decode cX4_addressWith 27 = .ok (.iload_n 2, 1) := by decide +kernel
theorem dX4_addressWith_28 : decode cX4_addressWith 28 = .ok (.iload_n 3, 1) := by decide +kernel
theorem dX4_addressWith_29 : decode cX4_addressWith 29 = .ok (.invokevirtual 33, 3) := by decide +kernel
theorem dX4_addressWith_32 : decode cX4_addressWith 32 = .ok (.iadd, 1) := by decide +kernel
theorem dX4_addressWith_33 : decode cX4_addressWith 33 = .ok (.istore_n 3, 1) := by decide +kernel
theorem dX4_addressWith_34 : decode cX4_addressWith 34 = .ok (.iinc 4 1, 3) := by decide +kernel
theorem dX4_addressWith_37 : decode cX4_addressWith 37 = .ok (.goto (-32), 3) := by decide +kernel
theorem dX4_addressWith_40 : decode cX4_addressWith 40 = .ok (.iload_n 3, 1) := by decide +kernel
theorem dX4_addressWith_41 : decode cX4_addressWith 41 = .ok (.ireturn, 1) := by decide +kernel
theorem dX4_addressOfLiteral_0 : decode cX4_addressOfLiteral 0 = .ok (.aload_n 0, 1) := by decide +kernel
theorem dX4_addressOfLiteral_1 : decode cX4_addressOfLiteral 1 = .ok (.aload_n 0, 1) := by decide +kernel
theorem dX4_addressOfLiteral_2 : decode cX4_addressOfLiteral 2 = .ok (.getfield 19, 3) := by decide +kernel
theorem dX4_addressOfLiteral_5 : decode cX4_addressOfLiteral 5 = .ok (.iload_n 1, 1) := by decide +kernel
theorem dX4_addressOfLiteral_6 : decode cX4_addressOfLiteral 6 = .ok (.invokevirtual 76, 3) := by decide +kernel
theorem dX4_addressOfLiteral_9 : decode cX4_addressOfLiteral 9 = .ok (.invokevirtual 64, 3) := by decide +kernel
theorem dX4_addressOfLiteral_12 : decode cX4_addressOfLiteral 12 = .ok (.iload_n 3, 1) := by decide +kernel
theorem dX4_addressOfLiteral_13 : decode cX4_addressOfLiteral 13 = .ok (.iadd, 1) := by decide +kernel
theorem dX4_addressOfLiteral_14 : decode cX4_addressOfLiteral 14 = .ok (.istore 4, 2) := by decide +kernel
theorem dX4_addressOfLiteral_16 : decode cX4_addressOfLiteral 16 = .ok (.iload 4, 2) := by decide +kernel
theorem dX4_addressOfLiteral_18 : decode cX4_addressOfLiteral 18 = .ok (.iload 4, 2) := by decide +kernel
theorem dX4_addressOfLiteral_20 : decode cX4_addressOfLiteral 20 = .ok (.iconst 4, 1) := by decide +kernel
theorem dX4_addressOfLiteral_21 : decode cX4_addressOfLiteral 21 = .ok (.invokestatic 43, 3) := by decide +kernel
theorem dX4_addressOfLiteral_24 : decode cX4_addressOfLiteral 24 = .ok (.iadd, 1) := by decide +kernel
theorem dX4_addressOfLiteral_25 : decode cX4_addressOfLiteral 25 = .ok (.iconst 4, 1) := by decide +kernel
theorem dX4_addressOfLiteral_26 : decode cX4_addressOfLiteral 26 = .ok (.iload_n 2, 1) := by decide +kernel
theorem dX4_addressOfLiteral_27 : decode cX4_addressOfLiteral 27 = .ok (.imul, 1) := by decide +kernel
theorem dX4_addressOfLiteral_28 : decode cX4_addressOfLiteral 28 = .ok (.iadd, 1) := by decide +kernel
theorem dX4_addressOfLiteral_29 : decode cX4_addressOfLiteral 29 = .ok (.ireturn, 1) := by decide +kernel
theorem dX4_distanceWith_0 : decode cX4_distanceWith 0 = .ok (.aload_n 0, 1) := by decide +kernel
theorem dX4_distanceWith_1 : decode cX4_distanceWith 1 = .ok (.aload_n 0, 1) := by decide +kernel
theorem dX4_distanceWith_2 : decode cX4_distanceWith 2 = .ok (.getfield 19, 3) := by decide +kernel
theorem dX4_distanceWith_5 : decode cX4_distanceWith 5 = .ok (.iload_n 1, 1) := by decide +kernel
theorem dX4_distanceWith_6 : decode cX4_distanceWith 6 = .ok (.invokevirtual 53, 3) := by decide +kernel
theorem dX4_distanceWith_9 : decode cX4_distanceWith 9 = .ok (.aload_n 0, 1) := by decide +kernel
theorem dX4_distanceWith_10 : decode cX4_distanceWith 10 = .ok (.getfield 19, 3) := by decide +kernel
theorem dX4_distanceWith_13 : decode cX4_distanceWith 13 = .ok (.iload_n 1, 1) := by decide +kernel
theorem dX4_distanceWith_14 : decode cX4_distanceWith 14 = .ok (.invokevirtual 79, 3) := by decide +kernel
theorem dX4_distanceWith_17 : decode cX4_distanceWith 17 = .ok (.iload_n 2, 1) := by decide +kernel
theorem dX4_distanceWith_18 : decode cX4_distanceWith 18 = .ok (.invokevirtual 82, 3) := by decide +kernel
theorem dX4_distanceWith_21 : decode cX4_distanceWith 21 = .ok (.istore_n 3, 1) := by decide +kernel
theorem dX4_distanceWith_22 : decode cX4_distanceWith 22 = .ok (.iload_n 3, 1) := by decide +kernel
theorem dX4_distanceWith_23 : decode cX4_distanceWith 23 = .ok (.aload_n 0, 1) := by decide +kernel
theorem dX4_distanceWith_24 : decode cX4_distanceWith 24 = .ok (.iload_n 1, 1) := by decide +kernel
theorem dX4_distanceWith_25 : decode cX4_distanceWith 25 = .ok (.invokevirtual 64, 3) := by decide +kernel
theorem dX4_distanceWith_28 : decode cX4_distanceWith 28 = .ok (.iconst 2, 1) := by decide +kernel
theorem dX4_distanceWith_29 : decode cX4_distanceWith 29 = .ok (.iadd, 1) := by decide +kernel
theorem dX4_distanceWith_30 : decode cX4_distanceWith 30 = .ok (.isub, 1) := by decide +kernel
theorem dX4_distanceWith_31 : decode cX4_distanceWith 31 = .ok (.ireturn, 1) := by decide +kernel
theorem dX4_loadsBeyondReach_0 : decode cX4_loadsBeyondReach 0 = .ok (.iconst 0, 1) := by decide +kernel
theorem dX4_loadsBeyondReach_1 : decode cX4_loadsBeyondReach 1 = .ok (.istore_n 1, 1) := by decide +kernel
theorem dX4_loadsBeyondReach_2 : decode cX4_loadsBeyondReach 2 = .ok (.iconst 0, 1) := by decide +kernel
theorem dX4_loadsBeyondReach_3 : decode cX4_loadsBeyondReach 3 = .ok (.istore_n 2, 1) := by decide +kernel
theorem dX4_loadsBeyondReach_4 : decode cX4_loadsBeyondReach 4 = .ok (.iload_n 2, 1) := by decide +kernel
theorem dX4_loadsBeyondReach_5 : decode cX4_loadsBeyondReach 5 = .ok (.aload_n 0, 1) := by decide +kernel
theorem dX4_loadsBeyondReach_6 : decode cX4_loadsBeyondReach 6 = .ok (.getfield 15, 3) := by decide +kernel
theorem dX4_loadsBeyondReach_9 : decode cX4_loadsBeyondReach 9 = .ok (.invokevirtual 23, 3) := by decide +kernel
theorem dX4_loadsBeyondReach_12 : decode cX4_loadsBeyondReach 12 = .ok (.if_icmp .ge 36, 3) := by decide +kernel
theorem dX4_loadsBeyondReach_15 : decode cX4_loadsBeyondReach 15 = .ok (.aload_n 0, 1) := by decide +kernel
theorem dX4_loadsBeyondReach_16 : decode cX4_loadsBeyondReach 16 = .ok (.getfield 15, 3) := by decide +kernel
theorem dX4_loadsBeyondReach_19 : decode cX4_loadsBeyondReach 19 = .ok (.iload_n 2, 1) := by decide +kernel
theorem dX4_loadsBeyondReach_20 : decode cX4_loadsBeyondReach 20 = .ok (.invokevirtual 37, 3) := by decide +kernel
theorem dX4_loadsBeyondReach_23 : decode cX4_loadsBeyondReach 23 = .ok (.bipush 6, 2) := by decide +kernel
theorem dX4_loadsBeyondReach_25 : decode cX4_loadsBeyondReach 25 = .ok (.if_icmp .ne 17, 3) := by decide +kernel
theorem dX4_loadsBeyondReach_28 : decode cX4_loadsBeyondReach 28 = .ok (.aload_n 0, 1) := by decide +kernel
theorem dX4_loadsBeyondReach_29 : decode cX4_loadsBeyondReach 29 = .ok (.iload_n 2, 1) := by decide +kernel
theorem dX4_loadsBeyondReach_30 : decode cX4_loadsBeyondReach 30 = .ok (.iconst 0, 1) := by decide +kernel
theorem dX4_loadsBeyondReach_31 : decode cX4_loadsBeyondReach 31 = .ok (.invokevirtual 85, 3) := by decide +kernel
theorem dX4_loadsBeyondReach_34 : decode cX4_loadsBeyondReach 34 = .ok (.bipush 60, 2) := by decide +kernel
theorem dX4_loadsBeyondReach_36 : decode cX4_loadsBeyondReach 36 = .ok (.if_icmp .le 6, 3) := by decide +kernel
theorem dX4_loadsBeyondReach_39 : decode cX4_loadsBeyondReach 39 = .ok (.iinc 1 1, 3) := by decide +kernel
theorem dX4_loadsBeyondReach_42 : decode cX4_loadsBeyondReach 42 = .ok (.iinc 2 1, 3) := by decide +kernel
theorem dX4_loadsBeyondReach_45 : decode cX4_loadsBeyondReach 45 = .ok (.goto (-41), 3) := by decide +kernel
theorem dX4_loadsBeyondReach_48 : decode cX4_loadsBeyondReach 48 = .ok (.iload_n 1, 1) := by decide +kernel
theorem dX4_loadsBeyondReach_49 : decode cX4_loadsBeyondReach 49 = .ok (.ireturn, 1) := by decide +kernel
theorem dX4_slackOf_0 : decode cX4_slackOf 0 = .ok (.bipush 50, 2) := by decide +kernel
theorem dX4_slackOf_2 : decode cX4_slackOf 2 = .ok (.istore_n 2, 1) := by decide +kernel
theorem dX4_slackOf_3 : decode cX4_slackOf 3 = .ok (.iload_n 2, 1) := by decide +kernel
theorem dX4_slackOf_4 : decode cX4_slackOf 4 = .ok (.ifCond .le 22, 3) := by decide +kernel
theorem dX4_slackOf_7 : decode cX4_slackOf 7 = .ok (.aload_n 0, 1) := by decide +kernel
theorem dX4_slackOf_8 : decode cX4_slackOf 8 = .ok (.iload_n 1, 1) := by decide +kernel
theorem dX4_slackOf_9 : decode cX4_slackOf 9 = .ok (.iload_n 2, 1) := by decide +kernel
theorem dX4_slackOf_10 : decode cX4_slackOf 10 = .ok (.invokevirtual 85, 3) := by decide +kernel
theorem dX4_slackOf_13 : decode cX4_slackOf 13 = .ok (.bipush 60, 2) := by decide +kernel
theorem dX4_slackOf_15 : decode cX4_slackOf 15 = .ok (.if_icmp .gt 5, 3) := by decide +kernel
theorem dX4_slackOf_18 : decode cX4_slackOf 18 = .ok (.iload_n 2, 1) := by decide +kernel
theorem dX4_slackOf_19 : decode cX4_slackOf 19 = .ok (.ireturn, 1) := by decide +kernel
theorem dX4_slackOf_20 : decode cX4_slackOf 20 = .ok (.iinc 2 (-1), 3) := by decide +kernel
theorem dX4_slackOf_23 : decode cX4_slackOf 23 = .ok (.goto (-20), 3) := by decide +kernel
theorem dX4_slackOf_26 : decode cX4_slackOf 26 = .ok (.iconst 0, 1) := by decide +kernel
theorem dX4_slackOf_27 : decode cX4_slackOf 27 = .ok (.ireturn, 1) := by decide +kernel
end
section
theorem dX5_init_0 : decode cX5_init 0 = .ok (.aload_n 0, 1) := by decide +kernel
theorem dX5_init_1 : decode cX5_init 1 = .ok (.invokespecial 3, 3) := by decide +kernel
theorem dX5_init_4 : decode cX5_init 4 = .ok (.aload_n 0, 1) := by decide +kernel
theorem dX5_init_5 : decode cX5_init 5 = .ok (.bipush 10, 2) := by decide +kernel
theorem dX5_init_7 : decode cX5_init 7 = .ok (.newarray .int, 2) := by decide +kernel
theorem dX5_init_9 : decode cX5_init 9 = .ok (.putfield 9, 3) := by decide +kernel
theorem dX5_init_12 : decode cX5_init 12 = .ok (.aload_n 0, 1) := by decide +kernel
theorem dX5_init_13 : decode cX5_init 13 = .ok (.bipush 40, 2) := by decide +kernel
theorem dX5_init_15 : decode cX5_init 15 = .ok (.newarray .int, 2) := by decide +kernel
theorem dX5_init_17 : decode cX5_init 17 = .ok (.putfield 15, 3) := by decide +kernel
theorem dX5_init_20 : decode cX5_init 20 = .ok (.aload_n 0, 1) := by decide +kernel
theorem dX5_init_21 : decode cX5_init 21 = .ok (.bipush 40, 2) := by decide +kernel
theorem dX5_init_23 : decode cX5_init 23 = .ok (.newarray .int, 2) := by decide +kernel
theorem dX5_init_25 : decode cX5_init 25 = .ok (.putfield 18, 3) := by decide +kernel
theorem dX5_init_28 : decode cX5_init 28 = .ok (.aload_n 0, 1) := by decide +kernel
theorem dX5_init_29 : decode cX5_init 29 = .ok (.bipush 41, 2) := by decide +kernel
theorem dX5_init_31 : decode cX5_init 31 = .ok (.newarray .int, 2) := by decide +kernel
theorem dX5_init_33 : decode cX5_init 33 = .ok (.putfield 21, 3) := by decide +kernel
theorem dX5_init_36 : decode cX5_init 36 = .ok (.aload_n 0, 1) := by decide +kernel
theorem dX5_init_37 : decode cX5_init 37 = .ok (.bipush 41, 2) := by decide +kernel
theorem dX5_init_39 : decode cX5_init 39 = .ok (.newarray .int, 2) := by decide +kernel
theorem dX5_init_41 : decode cX5_init 41 = .ok (.putfield 24, 3) := by decide +kernel
theorem dX5_init_44 : decode cX5_init 44 = .ok (.aload_n 0, 1) := by decide +kernel
theorem dX5_init_45 : decode cX5_init 45 = .ok (.bipush 100, 2) := by decide +kernel
theorem dX5_init_47 : decode cX5_init 47 = .ok (.newarray .int, 2) := by decide +kernel
theorem dX5_init_49 : decode cX5_init 49 = .ok (.putfield 27, 3) := by decide +kernel
theorem dX5_init_52 : decode cX5_init 52 = .ok (.aload_n 0, 1) := by decide +kernel
theorem dX5_init_53 : decode cX5_init 53 = .ok (.bipush 100, 2) := by decide +kernel
theorem dX5_init_55 : decode cX5_init 55 = .ok (.newarray .int, 2) := by decide +kernel
theorem dX5_init_57 : decode cX5_init 57 = .ok (.putfield 30, 3) := by decide +kernel
theorem dX5_init_60 : decode cX5_init 60 = .ok (.aload_n 0, 1) := by decide +kernel
theorem dX5_init_61 : decode cX5_init 61 = .ok (.iconst 0, 1) := by decide +kernel
theorem dX5_init_62 : decode cX5_init 62 = .ok (.putfield 33, 3) := by decide +kernel
theorem dX5_init_65 : decode cX5_init 65 = .ok (.aload_n 0, 1) := by decide +kernel
theorem dX5_init_66 : decode cX5_init 66 = .ok (.aload_n 1, 1) := by decide +kernel
theorem dX5_init_67 : decode cX5_init 67 = .ok (.putfield 37, 3) := by decide +kernel
theorem dX5_init_70 : decode cX5_init 70 = .ok (.return_, 1) := by decide +kernel
theorem dX5_read_0 : decode cX5_read 0 = .ok (.aload_n 0, 1) := by decide +kernel
theorem dX5_read_1 : decode cX5_read 1 = .ok (.getfield 9, 3) := by decide +kernel
theorem dX5_read_4 : decode cX5_read 4 = .ok (.iconst (-1), 1) := by decide +kernel
theorem dX5_read_5 : decode cX5_read 5 = .ok (.invokestatic 41, 3) := by decide +kernel
theorem dX5_read_8 : decode cX5_read 8 = .ok (.aload_n 0, 1) := by decide +kernel
theorem dX5_read_9 : decode cX5_read 9 = .ok (.getfield 27, 3) := by decide +kernel
theorem dX5_read_12 : decode cX5_read 12 = .ok (.iconst (-1), 1) := by decide +kernel
theorem dX5_read_13 : decode cX5_read 13 = .ok (.invokestatic 41, 3) := by decide +kernel
theorem dX5_read_16 : decode cX5_read 16 = .ok (.aload_n 0, 1) := by decide +kernel
theorem dX5_read_17 : decode cX5_read 17 = .ok (.iconst 0, 1) := by decide +kernel
theorem dX5_read_18 : decode cX5_read 18 = .ok (.putfield 33, 3) := by decide +kernel
theorem dX5_read_21 : decode cX5_read 21 = .ok (.aload_n 0, 1) := by decide +kernel
theorem dX5_read_22 : decode cX5_read 22 = .ok (.getfield 24, 3) := by decide +kernel
theorem dX5_read_25 : decode cX5_read 25 = .ok (.iconst 0, 1) := by decide +kernel
theorem dX5_read_26 : decode cX5_read 26 = .ok (.iconst 0, 1) := by decide +kernel
theorem dX5_read_27 : decode cX5_read 27 = .ok (.iastore, 1) := by decide +kernel
theorem dX5_read_28 : decode cX5_read 28 = .ok (.iconst 0, 1) := by decide +kernel
theorem dX5_read_29 : decode cX5_read 29 = .ok (.istore_n 1, 1) := by decide +kernel
theorem dX5_read_30 : decode cX5_read 30 = .ok (.iload_n 1, 1) := by decide +kernel
theorem dX5_read_31 : decode cX5_read 31 = .ok (.aload_n 0, 1) := by decide +kernel
theorem dX5_read_32 : decode cX5_read 32 = .ok (.getfield 37, 3) := by decide +kernel
theorem dX5_read_35 : decode cX5_read 35 = .ok (.invokevirtual 47, 3) := by decide +kernel
theorem dX5_read_38 : decode cX5_read 38 = .ok (.if_icmp .ge 20, 3) := by decide +kernel
theorem dX5_read_41 : decode cX5_read 41 = .ok (.iload_n 1, 1) := by decide +kernel
theorem dX5_read_42 : decode cX5_read 42 = .ok (.bipush 40, 2) := by decide +kernel
theorem dX5_read_44 : decode cX5_read 44 = .ok (.if_icmp .ge 14, 3) := by decide +kernel
theorem dX5_read_47 : decode cX5_read 47 = .ok (.aload_n 0, 1) := by decide +kernel
theorem dX5_read_48 : decode cX5_read 48 = .ok (.iload_n 1, 1) := by decide +kernel
theorem dX5_read_49 : decode cX5_read 49 = .ok (.invokevirtual 53, 3) := by decide +kernel
theorem dX5_read_52 : decode cX5_read 52 = .ok (.iinc 1 1, 3) := by decide +kernel
theorem dX5_read_55 : decode cX5_read 55 = .ok (.goto (-25), 3) := by decide +kernel
theorem dX5_read_58 : decode cX5_read 58 = .ok (.aload_n 0, 1) := by decide +kernel
theorem dX5_read_59 : decode cX5_read 59 = .ok (.getfield 21, 3) := by decide +kernel
theorem dX5_read_62 : decode cX5_read 62 = .ok (.aload_n 0, 1) := by decide +kernel
theorem dX5_read_63 : decode cX5_read 63 = .ok (.getfield 33, 3) := by decide +kernel
theorem dX5_read_66 : decode cX5_read 66 = .ok (.aload_n 0, 1) := by decide +kernel
theorem dX5_read_67 : decode cX5_read 67 = .ok (.getfield 37, 3) := by decide +kernel
theorem dX5_read_70 : decode cX5_read 70 = .ok (.invokevirtual 47, 3) := by decide +kernel
theorem dX5_read_73 : decode cX5_read 73 = .ok (.iastore, 1) := by decide +kernel
theorem dX5_read_74 : decode cX5_read 74 = .ok (.return_, 1) := by decide +kernel
theorem dX5_readItem_0 : decode cX5_readItem 0 = .ok (.aload_n 0, 1) := by decide +kernel
theorem dX5_readItem_1 : decode cX5_readItem 1 = .ok (.getfield 37, 3) := by decide +kernel
theorem dX5_readItem_4 : decode cX5_readItem 4 = .ok (.iload_n 1, 1) := by decide +kernel
theorem dX5_readItem_5 : decode cX5_readItem 5 = .ok (.invokevirtual 57, 3) := by decide +kernel
theorem dX5_readItem_8 : decode cX5_readItem 8 = .ok (.istore_n 2, 1) := by decide +kernel
theorem dX5_readItem_9 : decode cX5_readItem 9 = .ok (.aload_n 0, 1) := by decide +kernel
theorem dX5_readItem_10 : decode cX5_readItem 10 = .ok (.getfield 15, 3) := by decide +kernel
theorem dX5_readItem_13 : decode cX5_readItem 13 = .ok (.iload_n 1, 1) := by decide +kernel
theorem dX5_readItem_14 : decode cX5_readItem 14 = .ok (.aload_n 0, 1) := by decide +kernel
theorem dX5_readItem_15 : decode cX5_readItem 15 = .ok (.getfield 33, 3) := by decide +kernel
theorem dX5_readItem_18 : decode cX5_readItem 18 = .ok (.iastore, 1) := by decide +kernel
theorem dX5_readItem_19 : decode cX5_readItem 19 = .ok (.aload_n 0, 1) := by decide +kernel
theorem dX5_readItem_20 : decode cX5_readItem 20 = .ok (.getfield 37, 3) := by decide +kernel
theorem dX5_readItem_23 : decode cX5_readItem 23 = .ok (.iload_n 1, 1) := by decide +kernel
theorem dX5_readItem_24 : decode cX5_readItem 24 = .ok (.invokevirtual 61, 3) := by decide +kernel
theorem dX5_readItem_27 : decode cX5_readItem 27 = .ok (.lookupswitch 114 #[(2, 33), (6, 53), (7, 72)], 33) := by decide +kernel
theorem dX5_readItem_60 : decode cX5_readItem 60 = .ok (.iload_n 2, 1) := by decide +kernel
theorem dX5_readItem_61 : decode cX5_readItem 61 = .ok (.ifCond .lt 80, 3) := by decide +kernel
theorem dX5_readItem_64 : decode cX5_readItem 64 = .ok (.iload_n 2, 1) := by decide +kernel
theorem dX5_readItem_65 : decode cX5_readItem 65 = .ok (.bipush 10, 2) := by decide +kernel
theorem dX5_readItem_67 : decode cX5_readItem 67 = .ok (.if_icmp .ge 74, 3) := by decide +kernel
theorem dX5_readItem_70 : decode cX5_readItem 70 = .ok (.aload_n 0, 1) := by decide +kernel
theorem dX5_readItem_71 : decode cX5_readItem 71 = .ok (.getfield 9, 3) := by decide +kernel
theorem dX5_readItem_74 : decode cX5_readItem 74 = .ok (.iload_n 2, 1) := by decide +kernel
theorem dX5_readItem_75 : decode cX5_readItem 75 = .ok (.iload_n 1, 1) := by decide +kernel
theorem dX5_readItem_76 : decode cX5_readItem 76 = .ok (.iastore, 1) := by decide +kernel
theorem dX5_readItem_77 : decode cX5_readItem 77 = .ok (.goto 64, 3) := by decide +kernel
theorem dX5_readItem_80 : decode cX5_readItem 80 = .ok (.iload_n 2, 1) := by decide +kernel
theorem dX5_readItem_81 : decode cX5_readItem 81 = .ok (.ifCond .lt 60, 3) := by decide +kernel
theorem dX5_readItem_84 : decode cX5_readItem 84 = .ok (.iload_n 2, 1) := by decide +kernel
theorem dX5_readItem_85 : decode cX5_readItem 85 = .ok (.bipush 100, 2) := by decide +kernel
theorem dX5_readItem_87 : decode cX5_readItem 87 = .ok (.if_icmp .ge 54, 3) := by decide +kernel
theorem dX5_readItem_90 : decode cX5_readItem 90 = .ok (.aload_n 0, 1) := by decide +kernel
theorem dX5_readItem_91 : decode cX5_readItem 91 = .ok (.iload_n 1, 1) := by decide +kernel
theorem dX5_readItem_92 : decode cX5_readItem 92 = .ok (.iload_n 2, 1) := by decide +kernel
theorem dX5_readItem_93 : decode cX5_readItem 93 = .ok (.invokevirtual 64, 3) := by decide +kernel
theorem dX5_readItem_96 : decode cX5_readItem 96 = .ok (.goto 45, 3) := by decide +kernel
theorem dX5_readItem_99 : decode cX5_readItem 99 = .ok (.aload_n 0, 1) := by decide +kernel
theorem dX5_readItem_100 : decode cX5_readItem 100 = .ok (.getfield 33, 3) := by decide +kernel
theorem dX5_readItem_103 : decode cX5_readItem 103 = .ok (.bipush 40, 2) := by decide +kernel
theorem dX5_readItem_105 : decode cX5_readItem 105 = .ok (.if_icmp .ge 36, 3) := by decide +kernel
theorem dX5_readItem_108 : decode cX5_readItem 108 = .ok (.aload_n 0, 1) := by decide +kernel
theorem dX5_readItem_109 : decode cX5_readItem 109 = .ok (.getfield 21, 3) := by decide +kernel
theorem dX5_readItem_112 : decode cX5_readItem 112 = .ok (.aload_n 0, 1) := by decide +kernel
theorem dX5_readItem_113 : decode cX5_readItem 113 = .ok (.getfield 33, 3) := by decide +kernel
theorem dX5_readItem_116 : decode cX5_readItem 116 = .ok (.iload_n 1, 1) := by decide +kernel
theorem dX5_readItem_117 : decode cX5_readItem 117 = .ok (.iastore, 1) := by decide +kernel
theorem dX5_readItem_118 : decode cX5_readItem 118 = .ok (.aload_n 0, 1) := by decide +kernel
theorem dX5_readItem_119 : decode cX5_readItem 119 = .ok (.dup, 1) := by decide +kernel
theorem dX5_readItem_120 : decode cX5_readItem 120 = .ok (.getfield 33, 3) := by decide +kernel
theorem dX5_readItem_123 : decode cX5_readItem 123 = .ok (.iconst 1, 1) := by decide +kernel
theorem dX5_readItem_124 : decode cX5_readItem 124 = .ok (.iadd, 1) := by decide +kernel
theorem dX5_readItem_125 : decode cX5_readItem 125 = .ok (.putfield 33, 3) := by decide +kernel
theorem dX5_readItem_128 : decode cX5_readItem 128 = .ok (.aload_n 0, 1) := by decide +kernel
theorem dX5_readItem_129 : decode cX5_readItem 129 = .ok (.getfield 24, 3) := by decide +kernel
theorem dX5_readItem_132 : decode cX5_readItem 132 = .ok (.aload_n 0, 1) := by decide +kernel
theorem dX5_readItem_133 : decode cX5_readItem 133 = .ok (.getfield 33, 3) := by decide +kernel
theorem dX5_readItem_136 : decode cX5_readItem 136 = .ok (.iconst 0, 1) := by decide +kernel
theorem dX5_readItem_137 : decode cX5_readItem 137 = .ok (.iastore, 1) := by decide +kernel
theorem dX5_readItem_138 : decode cX5_readItem 138 = .ok (.goto 3, 3) := by decide +kernel
theorem dX5_readItem_141 : decode cX5_readItem 141 = .ok (.return_, 1) := by decide +kernel
theorem dX5_readLoad_0 : decode cX5_readLoad 0 = .ok (.aload_n 0, 1) := by decide +kernel
theorem dX5_readLoad_1 : decode cX5_readLoad 1 = .ok (.getfield 27, 3) := by decide +kernel
theorem dX5_readLoad_4 : decode cX5_readLoad 4 = .ok (.iload_n 2, 1) := by decide +kernel
theorem dX5_readLoad_5 : decode cX5_readLoad 5 = .ok (.iaload, 1) := by decide +kernel
theorem dX5_readLoad_6 : decode cX5_readLoad 6 = .ok (.aload_n 0, 1) := by decide +kernel
theorem dX5_readLoad_7 : decode cX5_readLoad 7 = .ok (.getfield 33, 3) := by decide +kernel
theorem dX5_readLoad_10 : decode cX5_readLoad 10 = .ok (.if_icmp .eq 41, 3) := by decide +kernel
theorem dX5_readLoad_13 : decode cX5_readLoad 13 = .ok (.aload_n 0, 1) := by decide +kernel
theorem dX5_readLoad_14 : decode cX5_readLoad 14 = .ok (.getfield 27, 3) := by decide +kernel
theorem dX5_readLoad_17 : decode cX5_readLoad 17 = .ok (.iload_n 2, 1) := by decide +kernel
theorem dX5_readLoad_18 : decode cX5_readLoad 18 = .ok (.aload_n 0, 1) := by decide +kernel
theorem dX5_readLoad_19 : decode cX5_readLoad 19 = .ok (.getfield 33, 3) := by decide +kernel
theorem dX5_readLoad_22 : decode cX5_readLoad 22 = .ok (.iastore, 1) := by decide +kernel
theorem dX5_readLoad_23 : decode cX5_readLoad 23 = .ok (.aload_n 0, 1) := by decide +kernel
theorem dX5_readLoad_24 : decode cX5_readLoad 24 = .ok (.getfield 30, 3) := by decide +kernel
theorem dX5_readLoad_27 : decode cX5_readLoad 27 = .ok (.iload_n 2, 1) := by decide +kernel
theorem dX5_readLoad_28 : decode cX5_readLoad 28 = .ok (.aload_n 0, 1) := by decide +kernel
theorem dX5_readLoad_29 : decode cX5_readLoad 29 = .ok (.getfield 24, 3) := by decide +kernel
theorem dX5_readLoad_32 : decode cX5_readLoad 32 = .ok (.aload_n 0, 1) := by decide +kernel
theorem dX5_readLoad_33 : decode cX5_readLoad 33 = .ok (.getfield 33, 3) := by decide +kernel
theorem dX5_readLoad_36 : decode cX5_readLoad 36 = .ok (.iaload, 1) := by decide +kernel
theorem dX5_readLoad_37 : decode cX5_readLoad 37 = .ok (.iastore, 1) := by decide +kernel
theorem dX5_readLoad_38 : decode cX5_readLoad 38 = .ok (.aload_n 0, 1) := by decide +kernel
theorem dX5_readLoad_39 : decode cX5_readLoad 39 = .ok (.getfield 24, 3) := by decide +kernel
theorem dX5_readLoad_42 : decode cX5_readLoad 42 = .ok (.aload_n 0, 1) := by decide +kernel
theorem dX5_readLoad_43 : decode cX5_readLoad 43 = .ok (.getfield 33, 3) := by decide +kernel
theorem dX5_readLoad_46 : decode cX5_readLoad 46 = .ok (.dup2, 1) := by decide +kernel
theorem dX5_readLoad_47 : decode cX5_readLoad 47 = .ok (.iaload, 1) := by decide +kernel
theorem dX5_readLoad_48 : decode cX5_readLoad 48 = .ok (.iconst 1, 1) := by decide +kernel
theorem dX5_readLoad_49 : decode cX5_readLoad 49 = .ok (.iadd, 1) := by decide +kernel
theorem dX5_readLoad_50 : decode cX5_readLoad 50 = .ok (.iastore, 1) := by decide +kernel
theorem dX5_readLoad_51 : decode cX5_readLoad 51 = .ok (.aload_n 0, 1) := by decide +kernel
theorem dX5_readLoad_52 : decode cX5_readLoad 52 = .ok (.getfield 18, 3) := by decide +kernel
theorem dX5_readLoad_55 : decode cX5_readLoad 55 = .ok (.iload_n 1, 1) := by decide +kernel
theorem dX5_readLoad_56 : decode cX5_readLoad 56 = .ok (.aload_n 0, 1) := by decide +kernel
theorem dX5_readLoad_57 : decode cX5_readLoad 57 = .ok (.getfield 30, 3) := by decide +kernel
theorem dX5_readLoad_60 : decode cX5_readLoad 60 = .ok (.iload_n 2, 1) := by decide +kernel
theorem dX5_readLoad_61 : decode cX5_readLoad 61 = .ok (.iaload, 1) := by decide +kernel
theorem dX5_readLoad_62 : decode cX5_readLoad 62 = .ok (.iastore, 1) := by decide +kernel
theorem dX5_readLoad_63 : decode cX5_readLoad 63 = .ok (.return_, 1) := by decide +kernel
theorem dX5_definerOf_0 : decode cX5_definerOf 0 = .ok (.iload_n 1, 1) := by decide +kernel
theorem dX5_definerOf_1 : decode cX5_definerOf 1 = .ok (.ifCond .lt 18, 3) := by decide +kernel
theorem dX5_definerOf_4 : decode cX5_definerOf 4 = .ok (.iload_n 1, 1) := by decide +kernel
theorem dX5_definerOf_5 : decode cX5_definerOf 5 = .ok (.bipush 10, 2) := by decide +kernel
theorem dX5_definerOf_7 : decode cX5_definerOf 7 = .ok (.if_icmp .ge 12, 3) := by decide +kernel
theorem dX5_definerOf_10 : decode cX5_definerOf 10 = .ok (.aload_n 0, 1) := by decide +kernel
theorem dX5_definerOf_11 : decode cX5_definerOf 11 = .ok (.getfield 9, 3) := by decide +kernel
theorem dX5_definerOf_14 : decode cX5_definerOf 14 = .ok (.iload_n 1, 1) := by decide +kernel
theorem dX5_definerOf_15 : decode cX5_definerOf 15 = .ok (.iaload, 1) := by decide +kernel
theorem dX5_definerOf_16 : decode cX5_definerOf 16 = .ok (.goto 4, 3) := by decide +kernel
theorem dX5_definerOf_19 : decode cX5_definerOf 19 = .ok (.iconst (-1), 1) := by decide +kernel
theorem dX5_definerOf_20 : decode cX5_definerOf 20 = .ok (.ireturn, 1) := by decide +kernel
theorem dX5_endPoolNumber_0 : decode cX5_endPoolNumber 0 = .ok (.aload_n 0, 1) := by decide +kernel
theorem dX5_endPoolNumber_1 : decode cX5_endPoolNumber 1 = .ok (.getfield 33, 3) := by decide +kernel
theorem dX5_endPoolNumber_4 : decode cX5_endPoolNumber 4 = .ok (.ireturn, 1) := by decide +kernel
theorem dX5_poolAt_0 : decode cX5_poolAt 0 = .ok (.aload_n 0, 1) := by decide +kernel
theorem dX5_poolAt_1 : decode cX5_poolAt 1 = .ok (.getfield 37, 3) := by decide +kernel
theorem dX5_poolAt_4 : decode cX5_poolAt 4 = .ok (.iload_n 1, 1) := by decide +kernel
theorem dX5_poolAt_5 : decode cX5_poolAt 5 = .ok (.invokevirtual 68, 3) := by decide +kernel
theorem dX5_poolAt_8 : decode cX5_poolAt 8 = .ok (.ifCond .eq 12, 3) := by decide +kernel
theorem dX5_poolAt_11 : decode cX5_poolAt 11 = .ok (.aload_n 0, 1) := by decide +kernel
theorem dX5_poolAt_12 : decode cX5_poolAt 12 = .ok (.getfield 15, 3) := by decide +kernel
theorem dX5_poolAt_15 : decode cX5_poolAt 15 = .ok (.iload_n 1, 1) := by decide +kernel
theorem dX5_poolAt_16 : decode cX5_poolAt 16 = .ok (.iaload, 1) := by decide +kernel
theorem dX5_poolAt_17 : decode cX5_poolAt 17 = .ok (.goto 7, 3) := by decide +kernel
theorem dX5_poolAt_20 : decode cX5_poolAt 20 = .ok (.aload_n 0, 1) := by decide +kernel
theorem dX5_poolAt_21 : decode cX5_poolAt 21 = .ok (.getfield 33, 3) := by decide +kernel
theorem dX5_poolAt_24 : decode cX5_poolAt 24 = .ok (.ireturn, 1) := by decide +kernel
theorem dX5_literalIndexAt_0 : decode cX5_literalIndexAt 0 = .ok (.aload_n 0, 1) := by decide +kernel
theorem dX5_literalIndexAt_1 : decode cX5_literalIndexAt 1 = .ok (.getfield 37, 3) := by decide +kernel
theorem dX5_literalIndexAt_4 : decode cX5_literalIndexAt 4 = .ok (.iload_n 1, 1) := by decide +kernel
theorem dX5_literalIndexAt_5 : decode cX5_literalIndexAt 5 = .ok (.invokevirtual 68, 3) := by decide +kernel
theorem dX5_literalIndexAt_8 : decode cX5_literalIndexAt 8 = .ok (.ifCond .eq 12, 3) := by decide +kernel
theorem dX5_literalIndexAt_11 : decode cX5_literalIndexAt 11 = .ok (.aload_n 0, 1) := by decide +kernel
theorem dX5_literalIndexAt_12 : decode cX5_literalIndexAt 12 = .ok (.getfield 18, 3) := by decide +kernel
theorem dX5_literalIndexAt_15 : decode cX5_literalIndexAt 15 = .ok (.iload_n 1, 1) := by decide +kernel
theorem dX5_literalIndexAt_16 : decode cX5_literalIndexAt 16 = .ok (.iaload, 1) := by decide +kernel
theorem dX5_literalIndexAt_17 : decode cX5_literalIndexAt 17 = .ok (.goto 4, 3) := by decide +kernel
theorem dX5_literalIndexAt_20 : decode cX5_literalIndexAt 20 = .ok (.iconst 0, 1) := by decide +kernel
theorem dX5_literalIndexAt_21 : decode cX5_literalIndexAt 21 = .ok (.ireturn, 1) := by decide +kernel
theorem dX5_literalsIn_0 : decode cX5_literalsIn 0 = .ok (.iload_n 1, 1) := by decide +kernel
theorem dX5_literalsIn_1 : decode cX5_literalsIn 1 = .ok (.ifCond .lt 20, 3) := by decide +kernel
theorem dX5_literalsIn_4 : decode cX5_literalsIn 4 = .ok (.iload_n 1, 1) := by decide +kernel
theorem dX5_literalsIn_5 : decode cX5_literalsIn 5 = .ok (.aload_n 0, 1) := by decide +kernel
theorem dX5_literalsIn_6 : decode cX5_literalsIn 6 = .ok (.getfield 33, 3) := by decide +kernel
theorem dX5_literalsIn_9 : decode cX5_literalsIn 9 = .ok (.if_icmp .gt 12, 3) := by decide +kernel
theorem dX5_literalsIn_12 : decode cX5_literalsIn 12 = .ok (.aload_n 0, 1) := by decide +kernel
theorem dX5_literalsIn_13 : decode cX5_literalsIn 13 = .ok (.getfield 24, 3) := by decide +kernel
theorem dX5_literalsIn_16 : decode cX5_literalsIn 16 = .ok (.iload_n 1, 1) := by decide +kernel
theorem dX5_literalsIn_17 : decode cX5_literalsIn 17 = .ok (.iaload, 1) := by decide +kernel
theorem dX5_literalsIn_18 : decode cX5_literalsIn 18 = .ok (.goto 4, 3) := by decide +kernel
theorem dX5_literalsIn_21 : decode cX5_literalsIn 21 = .ok (.iconst 0, 1) := by decide +kernel
theorem dX5_literalsIn_22 : decode cX5_literalsIn 22 = .ok (.ireturn, 1) := by decide +kernel
theorem dX5_itemOfPool_0 : decode cX5_itemOfPool 0 = .ok (.iload_n 1, 1) := by decide +kernel
theorem dX5_itemOfPool_1 : decode cX5_itemOfPool 1 = .ok (.ifCond .lt 20, 3) := by decide +kernel
theorem dX5_itemOfPool_4 : decode cX5_itemOfPool 4 = .ok (.iload_n 1, 1) := by decide +kernel
theorem dX5_itemOfPool_5 : decode cX5_itemOfPool 5 = .ok (.aload_n 0, 1) := by decide +kernel
theorem dX5_itemOfPool_6 : decode cX5_itemOfPool 6 = .ok (.getfield 33, 3) := by decide +kernel
theorem dX5_itemOfPool_9 : decode cX5_itemOfPool 9 = .ok (.if_icmp .gt 12, 3) := by decide +kernel
theorem dX5_itemOfPool_12 : decode cX5_itemOfPool 12 = .ok (.aload_n 0, 1) := by decide +kernel
theorem dX5_itemOfPool_13 : decode cX5_itemOfPool 13 = .ok (.getfield 21, 3) := by decide +kernel
theorem dX5_itemOfPool_16 : decode cX5_itemOfPool 16 = .ok (.iload_n 1, 1) := by decide +kernel
theorem dX5_itemOfPool_17 : decode cX5_itemOfPool 17 = .ok (.iaload, 1) := by decide +kernel
theorem dX5_itemOfPool_18 : decode cX5_itemOfPool 18 = .ok (.goto 10, 3) := by decide +kernel
theorem dX5_itemOfPool_21 : decode cX5_itemOfPool 21 = .ok (.aload_n 0, 1) := by decide +kernel
theorem dX5_itemOfPool_22 : decode cX5_itemOfPool 22 = .ok (.getfield 37, 3) := by decide +kernel
theorem dX5_itemOfPool_25 : decode cX5_itemOfPool 25 = .ok (.invokevirtual 47, 3) := by decide +kernel
theorem dX5_itemOfPool_28 : decode cX5_itemOfPool 28 = .ok (.ireturn, 1) := by decide +kernel
theorem dX5_valueOf_0 : decode cX5_valueOf 0 = .ok (.iconst 0, 1) := by decide +kernel
theorem dX5_valueOf_1 : decode cX5_valueOf 1 = .ok (.istore_n 3, 1) := by decide +kernel
theorem dX5_valueOf_2 : decode cX5_valueOf 2 = .ok (.iload_n 3, 1) := by decide +kernel
theorem dX5_valueOf_3 : decode cX5_valueOf 3 = .ok (.aload_n 0, 1) := by decide +kernel
theorem dX5_valueOf_4 : decode cX5_valueOf 4 = .ok (.getfield 37, 3) := by decide +kernel
theorem dX5_valueOf_7 : decode cX5_valueOf 7 = .ok (.invokevirtual 47, 3) := by decide +kernel
theorem dX5_valueOf_10 : decode cX5_valueOf 10 = .ok (.if_icmp .ge 51, 3) := by decide +kernel
theorem dX5_valueOf_13 : decode cX5_valueOf 13 = .ok (.aload_n 0, 1) := by decide +kernel
theorem dX5_valueOf_14 : decode cX5_valueOf 14 = .ok (.getfield 37, 3) := by decide +kernel
theorem dX5_valueOf_17 : decode cX5_valueOf 17 = .ok (.iload_n 3, 1) := by decide +kernel
theorem dX5_valueOf_18 : decode cX5_valueOf 18 = .ok (.invokevirtual 61, 3) := by decide +kernel
theorem dX5_valueOf_21 : decode cX5_valueOf 21 = .ok (.bipush 6, 2) := by decide +kernel
theorem dX5_valueOf_23 : decode cX5_valueOf 23 = .ok (.if_icmp .ne 32, 3) := by decide +kernel
theorem dX5_valueOf_26 : decode cX5_valueOf 26 = .ok (.aload_n 0, 1) := by decide +kernel
theorem dX5_valueOf_27 : decode cX5_valueOf 27 = .ok (.getfield 15, 3) := by decide +kernel
theorem dX5_valueOf_30 : decode cX5_valueOf 30 = .ok (.iload_n 3, 1) := by decide +kernel
theorem dX5_valueOf_31 : decode cX5_valueOf 31 = .ok (.iaload, 1) := by decide +kernel
theorem dX5_valueOf_32 : decode cX5_valueOf 32 = .ok (.iload_n 1, 1) := by decide +kernel
theorem dX5_valueOf_33 : decode cX5_valueOf 33 = .ok (.if_icmp .ne 22, 3) := by decide +kernel
theorem dX5_valueOf_36 : decode cX5_valueOf 36 = .ok (.aload_n 0, 1) := by decide +kernel
theorem dX5_valueOf_37 : decode cX5_valueOf 37 = .ok (.getfield 18, 3) := by decide +kernel
theorem dX5_valueOf_40 : decode cX5_valueOf 40 = .ok (.iload_n 3, 1) := by decide +kernel
theorem dX5_valueOf_41 : decode cX5_valueOf 41 = .ok (.iaload, 1) := by decide +kernel
theorem dX5_valueOf_42 : decode cX5_valueOf 42 = .ok (.iload_n 2, 1) := by decide +kernel
theorem dX5_valueOf_43 : decode cX5_valueOf 43 = .ok (.if_icmp .ne 12, 3) := by decide +kernel
theorem dX5_valueOf_46 : decode cX5_valueOf 46 = .ok (.aload_n 0, 1) := by decide +kernel
theorem dX5_valueOf_47 : decode cX5_valueOf 47 = .ok (.getfield 37, 3) := by decide +kernel
theorem dX5_valueOf_50 : decode cX5_valueOf 50 = .ok (.iload_n 3, 1) := by decide +kernel
theorem dX5_valueOf_51 : decode cX5_valueOf 51 = .ok (.invokevirtual 57, 3) := by decide +kernel
theorem dX5_valueOf_54 : decode cX5_valueOf 54 = .ok (.ireturn, 1) := by decide +kernel
theorem dX5_valueOf_55 : decode cX5_valueOf 55 = .ok (.iinc 3 1, 3) := by decide +kernel
theorem dX5_valueOf_58 : decode cX5_valueOf 58 = .ok (.goto (-56), 3) := by decide +kernel
theorem dX5_valueOf_61 : decode cX5_valueOf 61 = .ok (.iconst 0, 1) := by decide +kernel
theorem dX5_valueOf_62 : decode cX5_valueOf 62 = .ok (.ireturn, 1) := by decide +kernel
end
section
theorem dX6_init_0 : decode cX6_init 0 = .ok (.aload_n 0, 1) := by decide +kernel
theorem dX6_init_1 : decode cX6_init 1 = .ok (.invokespecial 3, 3) := by decide +kernel
theorem dX6_init_4 : decode cX6_init 4 = .ok (.aload_n 0, 1) := by decide +kernel
theorem dX6_init_5 : decode cX6_init 5 = .ok (.bipush 40, 2) := by decide +kernel
theorem dX6_init_7 : decode cX6_init 7 = .ok (.newarray .int, 2) := by decide +kernel
theorem dX6_init_9 : decode cX6_init 9 = .ok (.putfield 9, 3) := by decide +kernel
theorem dX6_init_12 : decode cX6_init 12 = .ok (.aload_n 0, 1) := by decide +kernel
theorem dX6_init_13 : decode cX6_init 13 = .ok (.bipush 40, 2) := by decide +kernel
theorem dX6_init_15 : decode cX6_init 15 = .ok (.newarray .int, 2) := by decide +kernel
theorem dX6_init_17 : decode cX6_init 17 = .ok (.putfield 15, 3) := by decide +kernel
theorem dX6_init_20 : decode cX6_init 20 = .ok (.aload_n 0, 1) := by decide +kernel
theorem dX6_init_21 : decode cX6_init 21 = .ok (.bipush 40, 2) := by decide +kernel
theorem dX6_init_23 : decode cX6_init 23 = .ok (.newarray .int, 2) := by decide +kernel
theorem dX6_init_25 : decode cX6_init 25 = .ok (.putfield 18, 3) := by decide +kernel
theorem dX6_init_28 : decode cX6_init 28 = .ok (.aload_n 0, 1) := by decide +kernel
theorem dX6_init_29 : decode cX6_init 29 = .ok (.iconst 0, 1) := by decide +kernel
theorem dX6_init_30 : decode cX6_init 30 = .ok (.putfield 21, 3) := by decide +kernel
theorem dX6_init_33 : decode cX6_init 33 = .ok (.return_, 1) := by decide +kernel
theorem dX6_count_0 : decode cX6_count 0 = .ok (.aload_n 0, 1) := by decide +kernel
theorem dX6_count_1 : decode cX6_count 1 = .ok (.getfield 21, 3) := by decide +kernel
theorem dX6_count_4 : decode cX6_count 4 = .ok (.ireturn, 1) := by decide +kernel
theorem dX6_isFull_0 : decode cX6_isFull 0 = .ok (.aload_n 0, 1) := by decide +kernel
theorem dX6_isFull_1 : decode cX6_isFull 1 = .ok (.getfield 21, 3) := by decide +kernel
theorem dX6_isFull_4 : decode cX6_isFull 4 = .ok (.bipush 40, 2) := by decide +kernel
theorem dX6_isFull_6 : decode cX6_isFull 6 = .ok (.if_icmp .lt 7, 3) := by decide +kernel
theorem dX6_isFull_9 : decode cX6_isFull 9 = .ok (.iconst 1, 1) := by decide +kernel
theorem dX6_isFull_10 : decode cX6_isFull 10 = .ok (.goto 4, 3) := by decide +kernel
theorem dX6_isFull_13 : decode cX6_isFull 13 = .ok (.iconst 0, 1) := by decide +kernel
theorem dX6_isFull_14 : decode cX6_isFull 14 = .ok (.ireturn, 1) := by decide +kernel
theorem dX6_has_0 : decode cX6_has 0 = .ok (.iload_n 1, 1) := by decide +kernel
theorem dX6_has_1 : decode cX6_has 1 = .ok (.ifCond .lt 15, 3) := by decide +kernel
theorem dX6_has_4 : decode cX6_has 4 = .ok (.iload_n 1, 1) := by decide +kernel
theorem dX6_has_5 : decode cX6_has 5 = .ok (.aload_n 0, 1) := by decide +kernel
theorem dX6_has_6 : decode cX6_has 6 = .ok (.getfield 21, 3) := by decide +kernel
theorem dX6_has_9 : decode cX6_has 9 = .ok (.if_icmp .ge 7, 3) := by decide +kernel
theorem dX6_has_12 : decode cX6_has 12 = .ok (.iconst 1, 1) := by decide +kernel
theorem dX6_has_13 : decode cX6_has 13 = .ok (.goto 4, 3) := by decide +kernel
theorem dX6_has_16 : decode cX6_has 16 = .ok (.iconst 0, 1) := by decide +kernel
theorem dX6_has_17 : decode cX6_has 17 = .ok (.ireturn, 1) := by decide +kernel
theorem dX6_kindAt_0 : decode cX6_kindAt 0 = .ok (.iload_n 1, 1) := by decide +kernel
theorem dX6_kindAt_1 : decode cX6_kindAt 1 = .ok (.ifCond .lt 20, 3) := by decide +kernel
theorem dX6_kindAt_4 : decode cX6_kindAt 4 = .ok (.iload_n 1, 1) := by decide +kernel
theorem dX6_kindAt_5 : decode cX6_kindAt 5 = .ok (.aload_n 0, 1) := by decide +kernel
theorem dX6_kindAt_6 : decode cX6_kindAt 6 = .ok (.getfield 21, 3) := by decide +kernel
theorem dX6_kindAt_9 : decode cX6_kindAt 9 = .ok (.if_icmp .ge 12, 3) := by decide +kernel
theorem dX6_kindAt_12 : decode cX6_kindAt 12 = .ok (.aload_n 0, 1) := by decide +kernel
theorem dX6_kindAt_13 : decode cX6_kindAt 13 = .ok (.getfield 9, 3) := by decide +kernel
theorem dX6_kindAt_16 : decode cX6_kindAt 16 = .ok (.iload_n 1, 1) := by decide +kernel
theorem dX6_kindAt_17 : decode cX6_kindAt 17 = .ok (.iaload, 1) := by decide +kernel
theorem dX6_kindAt_18 : decode cX6_kindAt 18 = .ok (.goto 4, 3) := by decide +kernel
theorem dX6_kindAt_21 : decode cX6_kindAt 21 = .ok (.iconst (-1), 1) := by decide +kernel
theorem dX6_kindAt_22 : decode cX6_kindAt 22 = .ok (.ireturn, 1) := by decide +kernel
theorem dX6_operandAt_0 : decode cX6_operandAt 0 = .ok (.iload_n 1, 1) := by decide +kernel
theorem dX6_operandAt_1 : decode cX6_operandAt 1 = .ok (.ifCond .lt 20, 3) := by decide +kernel
theorem dX6_operandAt_4 : decode cX6_operandAt 4 = .ok (.iload_n 1, 1) := by decide +kernel
theorem dX6_operandAt_5 : decode cX6_operandAt 5 = .ok (.aload_n 0, 1) := by decide +kernel
theorem dX6_operandAt_6 : decode cX6_operandAt 6 = .ok (.getfield 21, 3) := by decide +kernel
theorem dX6_operandAt_9 : decode cX6_operandAt 9 = .ok (.if_icmp .ge 12, 3) := by decide +kernel
theorem dX6_operandAt_12 : decode cX6_operandAt 12 = .ok (.aload_n 0, 1) := by decide +kernel
theorem dX6_operandAt_13 : decode cX6_operandAt 13 = .ok (.getfield 15, 3) := by decide +kernel
theorem dX6_operandAt_16 : decode cX6_operandAt 16 = .ok (.iload_n 1, 1) := by decide +kernel
theorem dX6_operandAt_17 : decode cX6_operandAt 17 = .ok (.iaload, 1) := by decide +kernel
theorem dX6_operandAt_18 : decode cX6_operandAt 18 = .ok (.goto 4, 3) := by decide +kernel
theorem dX6_operandAt_21 : decode cX6_operandAt 21 = .ok (.iconst 0, 1) := by decide +kernel
theorem dX6_operandAt_22 : decode cX6_operandAt 22 = .ok (.ireturn, 1) := by decide +kernel
theorem dX6_formAt_0 : decode cX6_formAt 0 = .ok (.iload_n 1, 1) := by decide +kernel
theorem dX6_formAt_1 : decode cX6_formAt 1 = .ok (.ifCond .lt 20, 3) := by decide +kernel
theorem dX6_formAt_4 : decode cX6_formAt 4 = .ok (.iload_n 1, 1) := by decide +kernel
theorem dX6_formAt_5 : decode cX6_formAt 5 = .ok (.aload_n 0, 1) := by decide +kernel
theorem dX6_formAt_6 : decode cX6_formAt 6 = .ok (.getfield 21, 3) := by decide +kernel
theorem dX6_formAt_9 : decode cX6_formAt 9 = .ok (.if_icmp .ge 12, 3) := by decide +kernel
theorem dX6_formAt_12 : decode cX6_formAt 12 = .ok (.aload_n 0, 1) := by decide +kernel
theorem dX6_formAt_13 : decode cX6_formAt 13 = .ok (.getfield 18, 3) := by decide +kernel
theorem dX6_formAt_16 : decode cX6_formAt 16 = .ok (.iload_n 1, 1) := by decide +kernel
theorem dX6_formAt_17 : decode cX6_formAt 17 = .ok (.iaload, 1) := by decide +kernel
theorem dX6_formAt_18 : decode cX6_formAt 18 = .ok (.goto 4, 3) := by decide +kernel
theorem dX6_formAt_21 : decode cX6_formAt 21 = .ok (.iconst 0, 1) := by decide +kernel
theorem dX6_formAt_22 : decode cX6_formAt 22 = .ok (.ireturn, 1) := by decide +kernel
theorem dX6_isTransfer_0 : decode cX6_isTransfer 0 = .ok (.aload_n 0, 1) := by decide +kernel
theorem dX6_isTransfer_1 : decode cX6_isTransfer 1 = .ok (.iload_n 1, 1) := by decide +kernel
theorem dX6_isTransfer_2 : decode cX6_isTransfer 2 = .ok (.invokevirtual 25, 3) := by decide +kernel
theorem dX6_isTransfer_5 : decode cX6_isTransfer 5 = .ok (.istore_n 2, 1) := by decide +kernel
theorem dX6_isTransfer_6 : decode cX6_isTransfer 6 = .ok (.iload_n 2, 1) := by decide +kernel
theorem dX6_isTransfer_7 : decode cX6_isTransfer 7 = .ok (.iconst 4, 1) := by decide +kernel
theorem dX6_isTransfer_8 : decode cX6_isTransfer 8 = .ok (.if_icmp .eq 8, 3) := by decide +kernel
theorem dX6_isTransfer_11 : decode cX6_isTransfer 11 = .ok (.iload_n 2, 1) := by decide +kernel
theorem dX6_isTransfer_12 : decode cX6_isTransfer 12 = .ok (.iconst 5, 1) := by decide +kernel
theorem dX6_isTransfer_13 : decode cX6_isTransfer 13 = .ok (.if_icmp .ne 7, 3) := by decide +kernel
theorem dX6_isTransfer_16 : decode cX6_isTransfer 16 = .ok (.iconst 1, 1) := by decide +kernel
theorem dX6_isTransfer_17 : decode cX6_isTransfer 17 = .ok (.goto 4, 3) := by decide +kernel
theorem dX6_isTransfer_20 : decode cX6_isTransfer 20 = .ok (.iconst 0, 1) := by decide +kernel
theorem dX6_isTransfer_21 : decode cX6_isTransfer 21 = .ok (.ireturn, 1) := by decide +kernel
theorem dX6_defines_0 : decode cX6_defines 0 = .ok (.iconst 0, 1) := by decide +kernel
theorem dX6_defines_1 : decode cX6_defines 1 = .ok (.istore_n 2, 1) := by decide +kernel
theorem dX6_defines_2 : decode cX6_defines 2 = .ok (.iload_n 2, 1) := by decide +kernel
theorem dX6_defines_3 : decode cX6_defines 3 = .ok (.aload_n 0, 1) := by decide +kernel
theorem dX6_defines_4 : decode cX6_defines 4 = .ok (.getfield 21, 3) := by decide +kernel
theorem dX6_defines_7 : decode cX6_defines 7 = .ok (.if_icmp .ge 31, 3) := by decide +kernel
theorem dX6_defines_10 : decode cX6_defines 10 = .ok (.aload_n 0, 1) := by decide +kernel
theorem dX6_defines_11 : decode cX6_defines 11 = .ok (.getfield 9, 3) := by decide +kernel
theorem dX6_defines_14 : decode cX6_defines 14 = .ok (.iload_n 2, 1) := by decide +kernel
theorem dX6_defines_15 : decode cX6_defines 15 = .ok (.iaload, 1) := by decide +kernel
theorem dX6_defines_16 : decode cX6_defines 16 = .ok (.iconst 2, 1) := by decide +kernel
theorem dX6_defines_17 : decode cX6_defines 17 = .ok (.if_icmp .ne 15, 3) := by decide +kernel
theorem dX6_defines_20 : decode cX6_defines 20 = .ok (.aload_n 0, 1) := by decide +kernel
theorem dX6_defines_21 : decode cX6_defines 21 = .ok (.getfield 15, 3) := by decide +kernel
theorem dX6_defines_24 : decode cX6_defines 24 = .ok (.iload_n 2, 1) := by decide +kernel
theorem dX6_defines_25 : decode cX6_defines 25 = .ok (.iaload, 1) := by decide +kernel
theorem dX6_defines_26 : decode cX6_defines 26 = .ok (.iload_n 1, 1) := by decide +kernel
theorem dX6_defines_27 : decode cX6_defines 27 = .ok (.if_icmp .ne 5, 3) := by decide +kernel
theorem dX6_defines_30 : decode cX6_defines 30 = .ok (.iconst 1, 1) := by decide +kernel
theorem dX6_defines_31 : decode cX6_defines 31 = .ok (.ireturn, 1) := by decide +kernel
theorem dX6_defines_32 : decode cX6_defines 32 = .ok (.iinc 2 1, 3) := by decide +kernel
theorem dX6_defines_35 : decode cX6_defines 35 = .ok (.goto (-33), 3) := by decide +kernel
theorem dX6_defines_38 : decode cX6_defines 38 = .ok (.iconst 0, 1) := by decide +kernel
theorem dX6_defines_39 : decode cX6_defines 39 = .ok (.ireturn, 1) := by decide +kernel
theorem dX6_clear_0 : decode cX6_clear 0 = .ok (.aload_n 0, 1) := by decide +kernel
theorem dX6_clear_1 : decode cX6_clear 1 = .ok (.iconst 0, 1) := by decide +kernel
theorem dX6_clear_2 : decode cX6_clear 2 = .ok (.putfield 21, 3) := by decide +kernel
theorem dX6_clear_5 : decode cX6_clear 5 = .ok (.return_, 1) := by decide +kernel
theorem dX6_putForm_0 : decode cX6_putForm 0 = .ok (.aload_n 0, 1) := by decide +kernel
theorem dX6_putForm_1 : decode cX6_putForm 1 = .ok (.iload_n 1, 1) := by decide +kernel
theorem dX6_putForm_2 : decode cX6_putForm 2 = .ok (.invokevirtual 29, 3) := by decide +kernel
theorem dX6_putForm_5 : decode cX6_putForm 5 = .ok (.ifCond .eq 10, 3) := by decide +kernel
theorem dX6_putForm_8 : decode cX6_putForm 8 = .ok (.aload_n 0, 1) := by decide +kernel
theorem dX6_putForm_9 : decode cX6_putForm 9 = .ok (.getfield 18, 3) := by decide +kernel
theorem dX6_putForm_12 : decode cX6_putForm 12 = .ok (.iload_n 1, 1) := by decide +kernel
theorem dX6_putForm_13 : decode cX6_putForm 13 = .ok (.iload_n 2, 1) := by decide +kernel
theorem dX6_putForm_14 : decode cX6_putForm 14 = .ok (.iastore, 1) := by decide +kernel
theorem dX6_putForm_15 : decode cX6_putForm 15 = .ok (.return_, 1) := by decide +kernel
theorem dX6_putAt_0 : decode cX6_putAt 0 = .ok (.aload_n 0, 1) := by decide +kernel
theorem dX6_putAt_1 : decode cX6_putAt 1 = .ok (.invokevirtual 33, 3) := by decide +kernel
theorem dX6_putAt_4 : decode cX6_putAt 4 = .ok (.ifCond .ne 15, 3) := by decide +kernel
theorem dX6_putAt_7 : decode cX6_putAt 7 = .ok (.iload_n 1, 1) := by decide +kernel
theorem dX6_putAt_8 : decode cX6_putAt 8 = .ok (.ifCond .lt 11, 3) := by decide +kernel
theorem dX6_putAt_11 : decode cX6_putAt 11 = .ok (.iload_n 1, 1) := by decide +kernel
theorem dX6_putAt_12 : decode cX6_putAt 12 = .ok (.aload_n 0, 1) := by decide +kernel
theorem dX6_putAt_13 : decode cX6_putAt 13 = .ok (.getfield 21, 3) := by decide +kernel
theorem dX6_putAt_16 : decode cX6_putAt 16 = .ok (.if_icmp .le 4, 3) := by decide +kernel
theorem dX6_putAt_19 : decode cX6_putAt 19 = .ok (.return_, 1) := by decide +kernel
theorem dX6_putAt_20 : decode cX6_putAt 20 = .ok (.aload_n 0, 1) := by decide +kernel
theorem dX6_putAt_21 : decode cX6_putAt 21 = .ok (.getfield 21, 3) := by decide +kernel
theorem dX6_putAt_24 : decode cX6_putAt 24 = .ok (.istore 5, 2) := by decide +kernel
theorem dX6_putAt_26 : decode cX6_putAt 26 = .ok (.iload 5, 2) := by decide +kernel
theorem dX6_putAt_28 : decode cX6_putAt 28 = .ok (.iload_n 1, 1) := by decide +kernel
theorem dX6_putAt_29 : decode cX6_putAt 29 = .ok (.if_icmp .le 57, 3) := by decide +kernel
theorem dX6_putAt_32 : decode cX6_putAt 32 = .ok (.aload_n 0, 1) := by decide +kernel
theorem dX6_putAt_33 : decode cX6_putAt 33 = .ok (.getfield 9, 3) := by decide +kernel
theorem dX6_putAt_36 : decode cX6_putAt 36 = .ok (.iload 5, 2) := by decide +kernel
theorem dX6_putAt_38 : decode cX6_putAt 38 = .ok (.aload_n 0, 1) := by decide +kernel
theorem dX6_putAt_39 : decode cX6_putAt 39 = .ok (.getfield 9, 3) := by decide +kernel
theorem dX6_putAt_42 : decode cX6_putAt 42 = .ok (.iload 5, 2) := by decide +kernel
theorem dX6_putAt_44 : decode cX6_putAt 44 = .ok (.iconst 1, 1) := by decide +kernel
theorem dX6_putAt_45 : decode cX6_putAt 45 = .ok (.isub, 1) := by decide +kernel
theorem dX6_putAt_46 : decode cX6_putAt 46 = .ok (.iaload, 1) := by decide +kernel
theorem dX6_putAt_47 : decode cX6_putAt 47 = .ok (.iastore, 1) := by decide +kernel
theorem dX6_putAt_48 : decode cX6_putAt 48 = .ok (.aload_n 0, 1) := by decide +kernel
theorem dX6_putAt_49 : decode cX6_putAt 49 = .ok (.getfield 15, 3) := by decide +kernel
theorem dX6_putAt_52 : decode cX6_putAt 52 = .ok (.iload 5, 2) := by decide +kernel
theorem dX6_putAt_54 : decode cX6_putAt 54 = .ok (.aload_n 0, 1) := by decide +kernel
theorem dX6_putAt_55 : decode cX6_putAt 55 = .ok (.getfield 15, 3) := by decide +kernel
theorem dX6_putAt_58 : decode cX6_putAt 58 = .ok (.iload 5, 2) := by decide +kernel
theorem dX6_putAt_60 : decode cX6_putAt 60 = .ok (.iconst 1, 1) := by decide +kernel
theorem dX6_putAt_61 : decode cX6_putAt 61 = .ok (.isub, 1) := by decide +kernel
theorem dX6_putAt_62 : decode cX6_putAt 62 = .ok (.iaload, 1) := by decide +kernel
theorem dX6_putAt_63 : decode cX6_putAt 63 = .ok (.iastore, 1) := by decide +kernel
theorem dX6_putAt_64 : decode cX6_putAt 64 = .ok (.aload_n 0, 1) := by decide +kernel
theorem dX6_putAt_65 : decode cX6_putAt 65 = .ok (.getfield 18, 3) := by decide +kernel
theorem dX6_putAt_68 : decode cX6_putAt 68 = .ok (.iload 5, 2) := by decide +kernel
theorem dX6_putAt_70 : decode cX6_putAt 70 = .ok (.aload_n 0, 1) := by decide +kernel
theorem dX6_putAt_71 : decode cX6_putAt 71 = .ok (.getfield 18, 3) := by decide +kernel
theorem dX6_putAt_74 : decode cX6_putAt 74 = .ok (.iload 5, 2) := by decide +kernel
theorem dX6_putAt_76 : decode cX6_putAt 76 = .ok (.iconst 1, 1) := by decide +kernel
theorem dX6_putAt_77 : decode cX6_putAt 77 = .ok (.isub, 1) := by decide +kernel
theorem dX6_putAt_78 : decode cX6_putAt 78 = .ok (.iaload, 1) := by decide +kernel
theorem dX6_putAt_79 : decode cX6_putAt 79 = .ok (.iastore, 1) := by decide +kernel
theorem dX6_putAt_80 : decode cX6_putAt 80 = .ok (.iinc 5 (-1), 3) := by decide +kernel
theorem dX6_putAt_83 : decode cX6_putAt 83 = .ok (.goto (-57), 3) := by decide +kernel
theorem dX6_putAt_86 : decode cX6_putAt 86 = .ok (.aload_n 0, 1) := by decide +kernel
theorem dX6_putAt_87 : decode cX6_putAt 87 = .ok (.getfield 9, 3) := by decide +kernel
theorem dX6_putAt_90 : decode cX6_putAt 90 = .ok (.iload_n 1, 1) := by decide +kernel
theorem dX6_putAt_91 : decode cX6_putAt 91 = .ok (.iload_n 2, 1) := by decide +kernel
theorem dX6_putAt_92 : decode cX6_putAt 92 = .ok (.iastore, 1) := by decide +kernel
theorem dX6_putAt_93 : decode cX6_putAt 93 = .ok (.aload_n 0, 1) := by decide +kernel
theorem dX6_putAt_94 : decode cX6_putAt 94 = .ok (.getfield 15, 3) := by decide +kernel
theorem dX6_putAt_97 : decode cX6_putAt 97 = .ok (.iload_n 1, 1) := by decide +kernel
theorem dX6_putAt_98 : decode cX6_putAt 98 = .ok (.iload_n 3, 1) := by decide +kernel
theorem dX6_putAt_99 : decode cX6_putAt 99 = .ok (.iastore, 1) := by decide +kernel
theorem dX6_putAt_100 : decode cX6_putAt 100 = .ok (.aload_n 0, 1) := by decide +kernel
theorem dX6_putAt_101 : decode cX6_putAt 101 = .ok (.getfield 18, 3) := by decide +kernel
theorem dX6_putAt_104 : decode cX6_putAt 104 = .ok (.iload_n 1, 1) := by decide +kernel
theorem dX6_putAt_105 : decode cX6_putAt 105 = .ok (.iload 4, 2) := by decide +kernel
theorem dX6_putAt_107 : decode cX6_putAt 107 = .ok (.iastore, 1) := by decide +kernel
theorem dX6_putAt_108 : decode cX6_putAt 108 = .ok (.aload_n 0, 1) := by decide +kernel
theorem dX6_putAt_109 : decode cX6_putAt 109 = .ok (.dup, 1) := by decide +kernel
theorem dX6_putAt_110 : decode cX6_putAt 110 = .ok (.getfield 21, 3) := by decide +kernel
theorem dX6_putAt_113 : decode cX6_putAt 113 = .ok (.iconst 1, 1) := by decide +kernel
theorem dX6_putAt_114 : decode cX6_putAt 114 = .ok (.iadd, 1) := by decide +kernel
theorem dX6_putAt_115 : decode cX6_putAt 115 = .ok (.putfield 21, 3) := by decide +kernel
theorem dX6_putAt_118 : decode cX6_putAt 118 = .ok (.return_, 1) := by decide +kernel
theorem dX6_takeOut_0 : decode cX6_takeOut 0 = .ok (.aload_n 0, 1) := by decide +kernel
theorem dX6_takeOut_1 : decode cX6_takeOut 1 = .ok (.iload_n 1, 1) := by decide +kernel
theorem dX6_takeOut_2 : decode cX6_takeOut 2 = .ok (.invokevirtual 29, 3) := by decide +kernel
theorem dX6_takeOut_5 : decode cX6_takeOut 5 = .ok (.ifCond .ne 4, 3) := by decide +kernel
theorem dX6_takeOut_8 : decode cX6_takeOut 8 = .ok (.return_, 1) := by decide +kernel
theorem dX6_takeOut_9 : decode cX6_takeOut 9 = .ok (.iload_n 1, 1) := by decide +kernel
theorem dX6_takeOut_10 : decode cX6_takeOut 10 = .ok (.istore_n 2, 1) := by decide +kernel
theorem dX6_takeOut_11 : decode cX6_takeOut 11 = .ok (.iload_n 2, 1) := by decide +kernel
theorem dX6_takeOut_12 : decode cX6_takeOut 12 = .ok (.aload_n 0, 1) := by decide +kernel
theorem dX6_takeOut_13 : decode cX6_takeOut 13 = .ok (.getfield 21, 3) := by decide +kernel
theorem dX6_takeOut_16 : decode cX6_takeOut 16 = .ok (.iconst 1, 1) := by decide +kernel
theorem dX6_takeOut_17 : decode cX6_takeOut 17 = .ok (.isub, 1) := by decide +kernel
theorem dX6_takeOut_18 : decode cX6_takeOut 18 = .ok (.if_icmp .ge 51, 3) := by decide +kernel
theorem dX6_takeOut_21 : decode cX6_takeOut 21 = .ok (.aload_n 0, 1) := by decide +kernel
theorem dX6_takeOut_22 : decode cX6_takeOut 22 = .ok (.getfield 9, 3) := by decide +kernel
theorem dX6_takeOut_25 : decode cX6_takeOut 25 = .ok (.iload_n 2, 1) := by decide +kernel
theorem dX6_takeOut_26 : decode cX6_takeOut 26 = .ok (.aload_n 0, 1) := by decide +kernel
theorem dX6_takeOut_27 : decode cX6_takeOut 27 = .ok (.getfield 9, 3) := by decide +kernel
theorem dX6_takeOut_30 : decode cX6_takeOut 30 = .ok (.iload_n 2, 1) := by decide +kernel
theorem dX6_takeOut_31 : decode cX6_takeOut 31 = .ok (.iconst 1, 1) := by decide +kernel
theorem dX6_takeOut_32 : decode cX6_takeOut 32 = .ok (.iadd, 1) := by decide +kernel
theorem dX6_takeOut_33 : decode cX6_takeOut 33 = .ok (.iaload, 1) := by decide +kernel
theorem dX6_takeOut_34 : decode cX6_takeOut 34 = .ok (.iastore, 1) := by decide +kernel
theorem dX6_takeOut_35 : decode cX6_takeOut 35 = .ok (.aload_n 0, 1) := by decide +kernel
theorem dX6_takeOut_36 : decode cX6_takeOut 36 = .ok (.getfield 15, 3) := by decide +kernel
theorem dX6_takeOut_39 : decode cX6_takeOut 39 = .ok (.iload_n 2, 1) := by decide +kernel
theorem dX6_takeOut_40 : decode cX6_takeOut 40 = .ok (.aload_n 0, 1) := by decide +kernel
theorem dX6_takeOut_41 : decode cX6_takeOut 41 = .ok (.getfield 15, 3) := by decide +kernel
theorem dX6_takeOut_44 : decode cX6_takeOut 44 = .ok (.iload_n 2, 1) := by decide +kernel
theorem dX6_takeOut_45 : decode cX6_takeOut 45 = .ok (.iconst 1, 1) := by decide +kernel
theorem dX6_takeOut_46 : decode cX6_takeOut 46 = .ok (.iadd, 1) := by decide +kernel
theorem dX6_takeOut_47 : decode cX6_takeOut 47 = .ok (.iaload, 1) := by decide +kernel
theorem dX6_takeOut_48 : decode cX6_takeOut 48 = .ok (.iastore, 1) := by decide +kernel
theorem dX6_takeOut_49 : decode cX6_takeOut 49 = .ok (.aload_n 0, 1) := by decide +kernel
theorem dX6_takeOut_50 : decode cX6_takeOut 50 = .ok (.getfield 18, 3) := by decide +kernel
theorem dX6_takeOut_53 : decode cX6_takeOut 53 = .ok (.iload_n 2, 1) := by decide +kernel
theorem dX6_takeOut_54 : decode cX6_takeOut 54 = .ok (.aload_n 0, 1) := by decide +kernel
theorem dX6_takeOut_55 : decode cX6_takeOut 55 = .ok (.getfield 18, 3) := by decide +kernel
theorem dX6_takeOut_58 : decode cX6_takeOut 58 = .ok (.iload_n 2, 1) := by decide +kernel
theorem dX6_takeOut_59 : decode cX6_takeOut 59 = .ok (.iconst 1, 1) := by decide +kernel
theorem dX6_takeOut_60 : decode cX6_takeOut 60 = .ok (.iadd, 1) := by decide +kernel
theorem dX6_takeOut_61 : decode cX6_takeOut 61 = .ok (.iaload, 1) := by decide +kernel
theorem dX6_takeOut_62 : decode cX6_takeOut 62 = .ok (.iastore, 1) := by decide +kernel
theorem dX6_takeOut_63 : decode cX6_takeOut 63 = .ok (.iinc 2 1, 3) := by decide +kernel
theorem dX6_takeOut_66 : decode cX6_takeOut 66 = .ok (.goto (-55), 3) := by decide +kernel
theorem dX6_takeOut_69 : decode cX6_takeOut 69 = .ok (.aload_n 0, 1) := by decide +kernel
theorem dX6_takeOut_70 : decode cX6_takeOut 70 = .ok (.dup, 1) := by decide +kernel
theorem dX6_takeOut_71 : decode cX6_takeOut 71 = .ok (.getfield 21, 3) := by decide +kernel
theorem dX6_takeOut_74 : decode cX6_takeOut 74 = .ok (.iconst 1, 1) := by decide +kernel
theorem dX6_takeOut_75 : decode cX6_takeOut 75 = .ok (.isub, 1) := by decide +kernel
theorem dX6_takeOut_76 : decode cX6_takeOut 76 = .ok (.putfield 21, 3) := by decide +kernel
theorem dX6_takeOut_79 : decode cX6_takeOut 79 = .ok (.return_, 1) := by decide +kernel
theorem dX6_copyFrom_0 : decode cX6_copyFrom 0 = .ok (.iconst 0, 1) := by decide +kernel
theorem dX6_copyFrom_1 : decode cX6_copyFrom 1 = .ok (.istore_n 2, 1) := by decide +kernel
theorem dX6_copyFrom_2 : decode cX6_copyFrom 2 = .ok (.iload_n 2, 1) := by decide +kernel
theorem dX6_copyFrom_3 : decode cX6_copyFrom 3 = .ok (.aload_n 1, 1) := by decide +kernel
theorem dX6_copyFrom_4 : decode cX6_copyFrom 4 = .ok (.getfield 21, 3) := by decide +kernel
theorem dX6_copyFrom_7 : decode cX6_copyFrom 7 = .ok (.if_icmp .ge 45, 3) := by decide +kernel
theorem dX6_copyFrom_10 : decode cX6_copyFrom 10 = .ok (.aload_n 0, 1) := by decide +kernel
theorem dX6_copyFrom_11 : decode cX6_copyFrom 11 = .ok (.getfield 9, 3) := by decide +kernel
theorem dX6_copyFrom_14 : decode cX6_copyFrom 14 = .ok (.iload_n 2, 1) := by decide +kernel
theorem dX6_copyFrom_15 : decode cX6_copyFrom 15 = .ok (.aload_n 1, 1) := by decide +kernel
theorem dX6_copyFrom_16 : decode cX6_copyFrom 16 = .ok (.getfield 9, 3) := by decide +kernel
theorem dX6_copyFrom_19 : decode cX6_copyFrom 19 = .ok (.iload_n 2, 1) := by decide +kernel
theorem dX6_copyFrom_20 : decode cX6_copyFrom 20 = .ok (.iaload, 1) := by decide +kernel
theorem dX6_copyFrom_21 : decode cX6_copyFrom 21 = .ok (.iastore, 1) := by decide +kernel
theorem dX6_copyFrom_22 : decode cX6_copyFrom 22 = .ok (.aload_n 0, 1) := by decide +kernel
theorem dX6_copyFrom_23 : decode cX6_copyFrom 23 = .ok (.getfield 15, 3) := by decide +kernel
theorem dX6_copyFrom_26 : decode cX6_copyFrom 26 = .ok (.iload_n 2, 1) := by decide +kernel
theorem dX6_copyFrom_27 : decode cX6_copyFrom 27 = .ok (.aload_n 1, 1) := by decide +kernel
theorem dX6_copyFrom_28 : decode cX6_copyFrom 28 = .ok (.getfield 15, 3) := by decide +kernel
theorem dX6_copyFrom_31 : decode cX6_copyFrom 31 = .ok (.iload_n 2, 1) := by decide +kernel
theorem dX6_copyFrom_32 : decode cX6_copyFrom 32 = .ok (.iaload, 1) := by decide +kernel
theorem dX6_copyFrom_33 : decode cX6_copyFrom 33 = .ok (.iastore, 1) := by decide +kernel
theorem dX6_copyFrom_34 : decode cX6_copyFrom 34 = .ok (.aload_n 0, 1) := by decide +kernel
theorem dX6_copyFrom_35 : decode cX6_copyFrom 35 = .ok (.getfield 18, 3) := by decide +kernel
theorem dX6_copyFrom_38 : decode cX6_copyFrom 38 = .ok (.iload_n 2, 1) := by decide +kernel
theorem dX6_copyFrom_39 : decode cX6_copyFrom 39 = .ok (.aload_n 1, 1) := by decide +kernel
theorem dX6_copyFrom_40 : decode cX6_copyFrom 40 = .ok (.getfield 18, 3) := by decide +kernel
theorem dX6_copyFrom_43 : decode cX6_copyFrom 43 = .ok (.iload_n 2, 1) := by decide +kernel
theorem dX6_copyFrom_44 : decode cX6_copyFrom 44 = .ok (.iaload, 1) := by decide +kernel
theorem dX6_copyFrom_45 : decode cX6_copyFrom 45 = .ok (.iastore, 1) := by decide +kernel
theorem dX6_copyFrom_46 : decode cX6_copyFrom 46 = .ok (.iinc 2 1, 3) := by decide +kernel
theorem dX6_copyFrom_49 : decode cX6_copyFrom 49 = .ok (.goto (-47), 3) := by decide +kernel
theorem dX6_copyFrom_52 : decode cX6_copyFrom 52 = .ok (.aload_n 0, 1) := by decide +kernel
theorem dX6_copyFrom_53 : decode cX6_copyFrom 53 = .ok (.aload_n 1, 1) := by decide +kernel
theorem dX6_copyFrom_54 : decode cX6_copyFrom 54 = .ok (.getfield 21, 3) := by decide +kernel
theorem dX6_copyFrom_57 : decode cX6_copyFrom 57 = .ok (.putfield 21, 3) := by decide +kernel
theorem dX6_copyFrom_60 : decode cX6_copyFrom 60 = .ok (.return_, 1) := by decide +kernel
end
section
theorem dX7_init_0 : decode cX7_init 0 = .ok (.aload_n 0, 1) := by decide +kernel
theorem dX7_init_1 : decode cX7_init 1 = .ok (.invokespecial 3, 3) := by decide +kernel
theorem dX7_init_4 : decode cX7_init 4 = .ok (.aload_n 0, 1) := by decide +kernel
theorem dX7_init_5 : decode cX7_init 5 = .ok (.aload_n 1, 1) := by decide +kernel
theorem dX7_init_6 : decode cX7_init 6 = .ok (.putfield 9, 3) := by decide +kernel
theorem dX7_init_9 : decode cX7_init 9 = .ok (.aload_n 0, 1) := by decide +kernel
theorem dX7_init_10 : decode cX7_init 10 = .ok (.aload_n 2, 1) := by decide +kernel
theorem dX7_init_11 : decode cX7_init 11 = .ok (.putfield 15, 3) := by decide +kernel
theorem dX7_init_14 : decode cX7_init 14 = .ok (.aload_n 0, 1) := by decide +kernel
theorem dX7_init_15 : decode cX7_init 15 = .ok (.aload_n 3, 1) := by decide +kernel
theorem dX7_init_16 : decode cX7_init 16 = .ok (.putfield 19, 3) := by decide +kernel
theorem dX7_init_19 : decode cX7_init 19 = .ok (.return_, 1) := by decide +kernel
theorem dX7_number_0 : decode cX7_number 0 = .ok (.iconst 0, 1) := by decide +kernel
theorem dX7_number_1 : decode cX7_number 1 = .ok (.istore_n 1, 1) := by decide +kernel
theorem dX7_number_2 : decode cX7_number 2 = .ok (.iconst 0, 1) := by decide +kernel
theorem dX7_number_3 : decode cX7_number 3 = .ok (.istore_n 2, 1) := by decide +kernel
theorem dX7_number_4 : decode cX7_number 4 = .ok (.iload_n 2, 1) := by decide +kernel
theorem dX7_number_5 : decode cX7_number 5 = .ok (.aload_n 0, 1) := by decide +kernel
theorem dX7_number_6 : decode cX7_number 6 = .ok (.getfield 9, 3) := by decide +kernel
theorem dX7_number_9 : decode cX7_number 9 = .ok (.invokevirtual 23, 3) := by decide +kernel
theorem dX7_number_12 : decode cX7_number 12 = .ok (.if_icmp .ge 23, 3) := by decide +kernel
theorem dX7_number_15 : decode cX7_number 15 = .ok (.aload_n 0, 1) := by decide +kernel
theorem dX7_number_16 : decode cX7_number 16 = .ok (.getfield 9, 3) := by decide +kernel
theorem dX7_number_19 : decode cX7_number 19 = .ok (.iload_n 2, 1) := by decide +kernel
theorem dX7_number_20 : decode cX7_number 20 = .ok (.invokevirtual 29, 3) := by decide +kernel
theorem dX7_number_23 : decode cX7_number 23 = .ok (.ifCond .eq 6, 3) := by decide +kernel
theorem dX7_number_26 : decode cX7_number 26 = .ok (.iinc 1 1, 3) := by decide +kernel
theorem dX7_number_29 : decode cX7_number 29 = .ok (.iinc 2 1, 3) := by decide +kernel
theorem dX7_number_32 : decode cX7_number 32 = .ok (.goto (-28), 3) := by decide +kernel
theorem dX7_number_35 : decode cX7_number 35 = .ok (.iload_n 1, 1) := by decide +kernel
theorem dX7_number_36 : decode cX7_number 36 = .ok (.ireturn, 1) := by decide +kernel
theorem dX7_numberWith_0 : decode cX7_numberWith 0 = .ok (.iconst 0, 1) := by decide +kernel
theorem dX7_numberWith_1 : decode cX7_numberWith 1 = .ok (.istore_n 2, 1) := by decide +kernel
theorem dX7_numberWith_2 : decode cX7_numberWith 2 = .ok (.iconst 0, 1) := by decide +kernel
theorem dX7_numberWith_3 : decode cX7_numberWith 3 = .ok (.istore_n 3, 1) := by decide +kernel
theorem dX7_numberWith_4 : decode cX7_numberWith 4 = .ok (.iload_n 3, 1) := by decide +kernel
theorem dX7_numberWith_5 : decode cX7_numberWith 5 = .ok (.aload_n 0, 1) := by decide +kernel
theorem dX7_numberWith_6 : decode cX7_numberWith 6 = .ok (.getfield 9, 3) := by decide +kernel
theorem dX7_numberWith_9 : decode cX7_numberWith 9 = .ok (.invokevirtual 23, 3) := by decide +kernel
theorem dX7_numberWith_12 : decode cX7_numberWith 12 = .ok (.if_icmp .ge 35, 3) := by decide +kernel
theorem dX7_numberWith_15 : decode cX7_numberWith 15 = .ok (.aload_n 0, 1) := by decide +kernel
theorem dX7_numberWith_16 : decode cX7_numberWith 16 = .ok (.getfield 9, 3) := by decide +kernel
theorem dX7_numberWith_19 : decode cX7_numberWith 19 = .ok (.iload_n 3, 1) := by decide +kernel
theorem dX7_numberWith_20 : decode cX7_numberWith 20 = .ok (.invokevirtual 29, 3) := by decide +kernel
theorem dX7_numberWith_23 : decode cX7_numberWith 23 = .ok (.ifCond .eq 18, 3) := by decide +kernel
theorem dX7_numberWith_26 : decode cX7_numberWith 26 = .ok (.aload_n 0, 1) := by decide +kernel
theorem dX7_numberWith_27 : decode cX7_numberWith 27 = .ok (.getfield 9, 3) := by decide +kernel
theorem dX7_numberWith_30 : decode cX7_numberWith 30 = .ok (.iload_n 3, 1) := by decide +kernel
theorem dX7_numberWith_31 : decode cX7_numberWith 31 = .ok (.invokevirtual 33, 3) := by decide +kernel
theorem dX7_numberWith_34 : decode cX7_numberWith 34 = .ok (.iload_n 1, 1) := by decide +kernel
theorem dX7_numberWith_35 : decode cX7_numberWith 35 = .ok (.if_icmp .ne 6, 3) := by decide +kernel
theorem dX7_numberWith_38 : decode cX7_numberWith 38 = .ok (.iinc 2 1, 3) := by decide +kernel
theorem dX7_numberWith_41 : decode cX7_numberWith 41 = .ok (.iinc 3 1, 3) := by decide +kernel
theorem dX7_numberWith_44 : decode cX7_numberWith 44 = .ok (.goto (-40), 3) := by decide +kernel
theorem dX7_numberWith_47 : decode cX7_numberWith 47 = .ok (.iload_n 2, 1) := by decide +kernel
theorem dX7_numberWith_48 : decode cX7_numberWith 48 = .ok (.ireturn, 1) := by decide +kernel
theorem dX7_sumOfForms_0 : decode cX7_sumOfForms 0 = .ok (.aload_n 0, 1) := by decide +kernel
theorem dX7_sumOfForms_1 : decode cX7_sumOfForms 1 = .ok (.iconst 1, 1) := by decide +kernel
theorem dX7_sumOfForms_2 : decode cX7_sumOfForms 2 = .ok (.invokevirtual 37, 3) := by decide +kernel
theorem dX7_sumOfForms_5 : decode cX7_sumOfForms 5 = .ok (.iconst 2, 1) := by decide +kernel
theorem dX7_sumOfForms_6 : decode cX7_sumOfForms 6 = .ok (.aload_n 0, 1) := by decide +kernel
theorem dX7_sumOfForms_7 : decode cX7_sumOfForms 7 = .ok (.iconst 2, 1) := by decide +kernel
theorem dX7_sumOfForms_8 : decode cX7_sumOfForms 8 = .ok (.invokevirtual 37, 3) := by decide +kernel
theorem dX7_sumOfForms_11 : decode cX7_sumOfForms 11 = .ok (.imul, 1) := by decide +kernel
theorem dX7_sumOfForms_12 : decode cX7_sumOfForms 12 = .ok (.iadd, 1) := by decide +kernel
theorem dX7_sumOfForms_13 : decode cX7_sumOfForms 13 = .ok (.ireturn, 1) := by decide +kernel
theorem dX7_isDefined_0 : decode cX7_isDefined 0 = .ok (.aload_n 0, 1) := by decide +kernel
theorem dX7_isDefined_1 : decode cX7_isDefined 1 = .ok (.getfield 15, 3) := by decide +kernel
theorem dX7_isDefined_4 : decode cX7_isDefined 4 = .ok (.aload_n 0, 1) := by decide +kernel
theorem dX7_isDefined_5 : decode cX7_isDefined 5 = .ok (.getfield 9, 3) := by decide +kernel
theorem dX7_isDefined_8 : decode cX7_isDefined 8 = .ok (.iload_n 1, 1) := by decide +kernel
theorem dX7_isDefined_9 : decode cX7_isDefined 9 = .ok (.invokevirtual 40, 3) := by decide +kernel
theorem dX7_isDefined_12 : decode cX7_isDefined 12 = .ok (.invokevirtual 43, 3) := by decide +kernel
theorem dX7_isDefined_15 : decode cX7_isDefined 15 = .ok (.iconst (-1), 1) := by decide +kernel
theorem dX7_isDefined_16 : decode cX7_isDefined 16 = .ok (.if_icmp .eq 7, 3) := by decide +kernel
theorem dX7_isDefined_19 : decode cX7_isDefined 19 = .ok (.iconst 1, 1) := by decide +kernel
theorem dX7_isDefined_20 : decode cX7_isDefined 20 = .ok (.goto 4, 3) := by decide +kernel
theorem dX7_isDefined_23 : decode cX7_isDefined 23 = .ok (.iconst 0, 1) := by decide +kernel
theorem dX7_isDefined_24 : decode cX7_isDefined 24 = .ok (.ireturn, 1) := by decide +kernel
theorem dX7_numberUndefined_0 : decode cX7_numberUndefined 0 = .ok (.iconst 0, 1) := by decide +kernel
theorem dX7_numberUndefined_1 : decode cX7_numberUndefined 1 = .ok (.istore_n 1, 1) := by decide +kernel
theorem dX7_numberUndefined_2 : decode cX7_numberUndefined 2 = .ok (.iconst 0, 1) := by decide +kernel
theorem dX7_numberUndefined_3 : decode cX7_numberUndefined 3 = .ok (.istore_n 2, 1) := by decide +kernel
theorem dX7_numberUndefined_4 : decode cX7_numberUndefined 4 = .ok (.iload_n 2, 1) := by decide +kernel
theorem dX7_numberUndefined_5 : decode cX7_numberUndefined 5 = .ok (.aload_n 0, 1) := by decide +kernel
theorem dX7_numberUndefined_6 : decode cX7_numberUndefined 6 = .ok (.getfield 9, 3) := by decide +kernel
theorem dX7_numberUndefined_9 : decode cX7_numberUndefined 9 = .ok (.invokevirtual 23, 3) := by decide +kernel
theorem dX7_numberUndefined_12 : decode cX7_numberUndefined 12 = .ok (.if_icmp .ge 31, 3) := by decide +kernel
theorem dX7_numberUndefined_15 : decode cX7_numberUndefined 15 = .ok (.aload_n 0, 1) := by decide +kernel
theorem dX7_numberUndefined_16 : decode cX7_numberUndefined 16 = .ok (.getfield 9, 3) := by decide +kernel
theorem dX7_numberUndefined_19 : decode cX7_numberUndefined 19 = .ok (.iload_n 2, 1) := by decide +kernel
theorem dX7_numberUndefined_20 : decode cX7_numberUndefined 20 = .ok (.invokevirtual 29, 3) := by decide +kernel
theorem dX7_numberUndefined_23 : decode cX7_numberUndefined 23 = .ok (.ifCond .eq 14, 3) := by decide +kernel
theorem dX7_numberUndefined_26 : decode cX7_numberUndefined 26 = .ok (.aload_n 0, 1) := by decide +kernel
theorem dX7_numberUndefined_27 : decode cX7_numberUndefined 27 = .ok (.iload_n 2, 1) := by decide +kernel
theorem dX7_numberUndefined_28 : decode cX7_numberUndefined 28 = .ok (.invokevirtual 48, 3) := by decide +kernel
theorem dX7_numberUndefined_31 : decode cX7_numberUndefined 31 = .ok (.ifCond .ne 6, 3) := by decide +kernel
theorem dX7_numberUndefined_34 : decode cX7_numberUndefined 34 = .ok (.iinc 1 1, 3) := by decide +kernel
theorem dX7_numberUndefined_37 : decode cX7_numberUndefined 37 = .ok (.iinc 2 1, 3) := by decide +kernel
theorem dX7_numberUndefined_40 : decode cX7_numberUndefined 40 = .ok (.goto (-36), 3) := by decide +kernel
theorem dX7_numberUndefined_43 : decode cX7_numberUndefined 43 = .ok (.iload_n 1, 1) := by decide +kernel
theorem dX7_numberUndefined_44 : decode cX7_numberUndefined 44 = .ok (.ireturn, 1) := by decide +kernel
theorem dX7_displacementAt_0 : decode cX7_displacementAt 0 = .ok (.aload_n 0, 1) := by decide +kernel
theorem dX7_displacementAt_1 : decode cX7_displacementAt 1 = .ok (.getfield 15, 3) := by decide +kernel
theorem dX7_displacementAt_4 : decode cX7_displacementAt 4 = .ok (.aload_n 0, 1) := by decide +kernel
theorem dX7_displacementAt_5 : decode cX7_displacementAt 5 = .ok (.getfield 9, 3) := by decide +kernel
theorem dX7_displacementAt_8 : decode cX7_displacementAt 8 = .ok (.iload_n 1, 1) := by decide +kernel
theorem dX7_displacementAt_9 : decode cX7_displacementAt 9 = .ok (.invokevirtual 40, 3) := by decide +kernel
theorem dX7_displacementAt_12 : decode cX7_displacementAt 12 = .ok (.invokevirtual 43, 3) := by decide +kernel
theorem dX7_displacementAt_15 : decode cX7_displacementAt 15 = .ok (.istore_n 2, 1) := by decide +kernel
theorem dX7_displacementAt_16 : decode cX7_displacementAt 16 = .ok (.aload_n 0, 1) := by decide +kernel
theorem dX7_displacementAt_17 : decode cX7_displacementAt 17 = .ok (.getfield 19, 3) := by decide +kernel
theorem dX7_displacementAt_20 : decode cX7_displacementAt 20 = .ok (.iload_n 2, 1) := by decide +kernel
theorem dX7_displacementAt_21 : decode cX7_displacementAt 21 = .ok (.invokevirtual 51, 3) := by decide +kernel
theorem dX7_displacementAt_24 : decode cX7_displacementAt 24 = .ok (.aload_n 0, 1) := by decide +kernel
theorem dX7_displacementAt_25 : decode cX7_displacementAt 25 = .ok (.getfield 19, 3) := by decide +kernel
theorem dX7_displacementAt_28 : decode cX7_displacementAt 28 = .ok (.iload_n 1, 1) := by decide +kernel
theorem dX7_displacementAt_29 : decode cX7_displacementAt 29 = .ok (.iconst 1, 1) := by decide +kernel
theorem dX7_displacementAt_30 : decode cX7_displacementAt 30 = .ok (.iadd, 1) := by decide +kernel
theorem dX7_displacementAt_31 : decode cX7_displacementAt 31 = .ok (.invokevirtual 51, 3) := by decide +kernel
theorem dX7_displacementAt_34 : decode cX7_displacementAt 34 = .ok (.isub, 1) := by decide +kernel
theorem dX7_displacementAt_35 : decode cX7_displacementAt 35 = .ok (.ireturn, 1) := by decide +kernel
theorem dX7_isFitting_0 : decode cX7_isFitting 0 = .ok (.aload_n 0, 1) := by decide +kernel
theorem dX7_isFitting_1 : decode cX7_isFitting 1 = .ok (.iload_n 1, 1) := by decide +kernel
theorem dX7_isFitting_2 : decode cX7_isFitting 2 = .ok (.invokevirtual 56, 3) := by decide +kernel
theorem dX7_isFitting_5 : decode cX7_isFitting 5 = .ok (.invokestatic 59, 3) := by decide +kernel
theorem dX7_isFitting_8 : decode cX7_isFitting 8 = .ok (.aload_n 0, 1) := by decide +kernel
theorem dX7_isFitting_9 : decode cX7_isFitting 9 = .ok (.getfield 9, 3) := by decide +kernel
theorem dX7_isFitting_12 : decode cX7_isFitting 12 = .ok (.iload_n 1, 1) := by decide +kernel
theorem dX7_isFitting_13 : decode cX7_isFitting 13 = .ok (.invokevirtual 33, 3) := by decide +kernel
theorem dX7_isFitting_16 : decode cX7_isFitting 16 = .ok (.if_icmp .gt 7, 3) := by decide +kernel
theorem dX7_isFitting_19 : decode cX7_isFitting 19 = .ok (.iconst 1, 1) := by decide +kernel
theorem dX7_isFitting_20 : decode cX7_isFitting 20 = .ok (.goto 4, 3) := by decide +kernel
theorem dX7_isFitting_23 : decode cX7_isFitting 23 = .ok (.iconst 0, 1) := by decide +kernel
theorem dX7_isFitting_24 : decode cX7_isFitting 24 = .ok (.ireturn, 1) := by decide +kernel
theorem dX7_numberMisfitting_0 : decode cX7_numberMisfitting 0 = .ok (.iconst 0, 1) := by decide +kernel
theorem dX7_numberMisfitting_1 : decode cX7_numberMisfitting 1 = .ok (.istore_n 1, 1) := by decide +kernel
theorem dX7_numberMisfitting_2 : decode cX7_numberMisfitting 2 = .ok (.iconst 0, 1) := by decide +kernel
theorem dX7_numberMisfitting_3 : decode cX7_numberMisfitting 3 = .ok (.istore_n 2, 1) := by decide +kernel
theorem dX7_numberMisfitting_4 : decode cX7_numberMisfitting 4 = .ok (.iload_n 2, 1) := by decide +kernel
theorem dX7_numberMisfitting_5 : decode cX7_numberMisfitting 5 = .ok (.aload_n 0, 1) := by decide +kernel
theorem dX7_numberMisfitting_6 : decode cX7_numberMisfitting 6 = .ok (.getfield 9, 3) := by decide +kernel
theorem dX7_numberMisfitting_9 : decode cX7_numberMisfitting 9 = .ok (.invokevirtual 23, 3) := by decide +kernel
theorem dX7_numberMisfitting_12 : decode cX7_numberMisfitting 12 = .ok (.if_icmp .ge 31, 3) := by decide +kernel
theorem dX7_numberMisfitting_15 : decode cX7_numberMisfitting 15 = .ok (.aload_n 0, 1) := by decide +kernel
theorem dX7_numberMisfitting_16 : decode cX7_numberMisfitting 16 = .ok (.getfield 9, 3) := by decide +kernel
theorem dX7_numberMisfitting_19 : decode cX7_numberMisfitting 19 = .ok (.iload_n 2, 1) := by decide +kernel
theorem dX7_numberMisfitting_20 : decode cX7_numberMisfitting 20 = .ok (.invokevirtual 29, 3) := by decide +kernel
theorem dX7_numberMisfitting_23 : decode cX7_numberMisfitting 23 = .ok (.ifCond .eq 14, 3) := by decide +kernel
theorem dX7_numberMisfitting_26 : decode cX7_numberMisfitting 26 = .ok (.aload_n 0, 1) := by decide +kernel
theorem dX7_numberMisfitting_27 : decode cX7_numberMisfitting 27 = .ok (.iload_n 2, 1) := by decide +kernel
theorem dX7_numberMisfitting_28 : decode cX7_numberMisfitting 28 = .ok (.invokevirtual 62, 3) := by decide +kernel
theorem dX7_numberMisfitting_31 : decode cX7_numberMisfitting 31 = .ok (.ifCond .ne 6, 3) := by decide +kernel
theorem dX7_numberMisfitting_34 : decode cX7_numberMisfitting 34 = .ok (.iinc 1 1, 3) := by decide +kernel
theorem dX7_numberMisfitting_37 : decode cX7_numberMisfitting 37 = .ok (.iinc 2 1, 3) := by decide +kernel
theorem dX7_numberMisfitting_40 : decode cX7_numberMisfitting 40 = .ok (.goto (-36), 3) := by decide +kernel
theorem dX7_numberMisfitting_43 : decode cX7_numberMisfitting 43 = .ok (.iload_n 1, 1) := by decide +kernel
theorem dX7_numberMisfitting_44 : decode cX7_numberMisfitting 44 = .ok (.ireturn, 1) := by decide +kernel
theorem dX7_growAll_0 : decode cX7_growAll 0 = .ok (.iconst 0, 1) := by decide +kernel
theorem dX7_growAll_1 : decode cX7_growAll 1 = .ok (.istore_n 1, 1) := by decide +kernel
theorem dX7_growAll_2 : decode cX7_growAll 2 = .ok (.iload_n 1, 1) := by decide +kernel
theorem dX7_growAll_3 : decode cX7_growAll 3 = .ok (.aload_n 0, 1) := by decide +kernel
theorem dX7_growAll_4 : decode cX7_growAll 4 = .ok (.getfield 9, 3) := by decide +kernel
theorem dX7_growAll_7 : decode cX7_growAll 7 = .ok (.invokevirtual 23, 3) := by decide +kernel
theorem dX7_growAll_10 : decode cX7_growAll 10 = .ok (.if_icmp .ge 18, 3) := by decide +kernel
theorem dX7_growAll_13 : decode cX7_growAll 13 = .ok (.aload_n 0, 1) := by decide +kernel
theorem dX7_growAll_14 : decode cX7_growAll 14 = .ok (.getfield 9, 3) := by decide +kernel
theorem dX7_growAll_17 : decode cX7_growAll 17 = .ok (.iload_n 1, 1) := by decide +kernel
theorem dX7_growAll_18 : decode cX7_growAll 18 = .ok (.iconst 0, 1) := by decide +kernel
theorem dX7_growAll_19 : decode cX7_growAll 19 = .ok (.invokevirtual 65, 3) := by decide +kernel
theorem dX7_growAll_22 : decode cX7_growAll 22 = .ok (.iinc 1 1, 3) := by decide +kernel
theorem dX7_growAll_25 : decode cX7_growAll 25 = .ok (.goto (-23), 3) := by decide +kernel
theorem dX7_growAll_28 : decode cX7_growAll 28 = .ok (.iconst 0, 1) := by decide +kernel
theorem dX7_growAll_29 : decode cX7_growAll 29 = .ok (.istore_n 1, 1) := by decide +kernel
theorem dX7_growAll_30 : decode cX7_growAll 30 = .ok (.iload_n 1, 1) := by decide +kernel
theorem dX7_growAll_31 : decode cX7_growAll 31 = .ok (.bipush 80, 2) := by decide +kernel
theorem dX7_growAll_33 : decode cX7_growAll 33 = .ok (.if_icmp .ge 16, 3) := by decide +kernel
theorem dX7_growAll_36 : decode cX7_growAll 36 = .ok (.aload_n 0, 1) := by decide +kernel
theorem dX7_growAll_37 : decode cX7_growAll 37 = .ok (.invokevirtual 69, 3) := by decide +kernel
theorem dX7_growAll_40 : decode cX7_growAll 40 = .ok (.ifCond .eq 9, 3) := by decide +kernel
theorem dX7_growAll_43 : decode cX7_growAll 43 = .ok (.iinc 1 1, 3) := by decide +kernel
theorem dX7_growAll_46 : decode cX7_growAll 46 = .ok (.goto (-16), 3) := by decide +kernel
theorem dX7_growAll_49 : decode cX7_growAll 49 = .ok (.iload_n 1, 1) := by decide +kernel
theorem dX7_growAll_50 : decode cX7_growAll 50 = .ok (.ireturn, 1) := by decide +kernel
theorem dX7_growMisfits_0 : decode cX7_growMisfits 0 = .ok (.iconst 0, 1) := by decide +kernel
theorem dX7_growMisfits_1 : decode cX7_growMisfits 1 = .ok (.istore_n 1, 1) := by decide +kernel
theorem dX7_growMisfits_2 : decode cX7_growMisfits 2 = .ok (.aload_n 0, 1) := by decide +kernel
theorem dX7_growMisfits_3 : decode cX7_growMisfits 3 = .ok (.getfield 19, 3) := by decide +kernel
theorem dX7_growMisfits_6 : decode cX7_growMisfits 6 = .ok (.invokevirtual 73, 3) := by decide +kernel
theorem dX7_growMisfits_9 : decode cX7_growMisfits 9 = .ok (.iconst 0, 1) := by decide +kernel
theorem dX7_growMisfits_10 : decode cX7_growMisfits 10 = .ok (.istore_n 2, 1) := by decide +kernel
theorem dX7_growMisfits_11 : decode cX7_growMisfits 11 = .ok (.iload_n 2, 1) := by decide +kernel
theorem dX7_growMisfits_12 : decode cX7_growMisfits 12 = .ok (.aload_n 0, 1) := by decide +kernel
theorem dX7_growMisfits_13 : decode cX7_growMisfits 13 = .ok (.getfield 9, 3) := by decide +kernel
theorem dX7_growMisfits_16 : decode cX7_growMisfits 16 = .ok (.invokevirtual 23, 3) := by decide +kernel
theorem dX7_growMisfits_19 : decode cX7_growMisfits 19 = .ok (.if_icmp .ge 46, 3) := by decide +kernel
theorem dX7_growMisfits_22 : decode cX7_growMisfits 22 = .ok (.aload_n 0, 1) := by decide +kernel
theorem dX7_growMisfits_23 : decode cX7_growMisfits 23 = .ok (.getfield 9, 3) := by decide +kernel
theorem dX7_growMisfits_26 : decode cX7_growMisfits 26 = .ok (.iload_n 2, 1) := by decide +kernel
theorem dX7_growMisfits_27 : decode cX7_growMisfits 27 = .ok (.invokevirtual 29, 3) := by decide +kernel
theorem dX7_growMisfits_30 : decode cX7_growMisfits 30 = .ok (.ifCond .eq 29, 3) := by decide +kernel
theorem dX7_growMisfits_33 : decode cX7_growMisfits 33 = .ok (.aload_n 0, 1) := by decide +kernel
theorem dX7_growMisfits_34 : decode cX7_growMisfits 34 = .ok (.iload_n 2, 1) := by decide +kernel
theorem dX7_growMisfits_35 : decode cX7_growMisfits 35 = .ok (.invokevirtual 62, 3) := by decide +kernel
theorem dX7_growMisfits_38 : decode cX7_growMisfits 38 = .ok (.ifCond .ne 21, 3) := by decide +kernel
theorem dX7_growMisfits_41 : decode cX7_growMisfits 41 = .ok (.aload_n 0, 1) := by decide +kernel
theorem dX7_growMisfits_42 : decode cX7_growMisfits 42 = .ok (.getfield 9, 3) := by decide +kernel
theorem dX7_growMisfits_45 : decode cX7_growMisfits 45 = .ok (.iload_n 2, 1) := by decide +kernel
theorem dX7_growMisfits_46 : decode cX7_growMisfits 46 = .ok (.aload_n 0, 1) := by decide +kernel
theorem dX7_growMisfits_47 : decode cX7_growMisfits 47 = .ok (.iload_n 2, 1) := by decide +kernel
theorem dX7_growMisfits_48 : decode cX7_growMisfits 48 = .ok (.invokevirtual 56, 3) := by decide +kernel
theorem dX7_growMisfits_51 : decode cX7_growMisfits 51 = .ok (.invokestatic 59, 3) := by decide +kernel
theorem dX7_growMisfits_54 : decode cX7_growMisfits 54 = .ok (.invokevirtual 65, 3) := by decide +kernel
theorem dX7_growMisfits_57 : decode cX7_growMisfits 57 = .ok (.iconst 1, 1) := by decide +kernel
theorem dX7_growMisfits_58 : decode cX7_growMisfits 58 = .ok (.istore_n 1, 1) := by decide +kernel
theorem dX7_growMisfits_59 : decode cX7_growMisfits 59 = .ok (.iinc 2 1, 3) := by decide +kernel
theorem dX7_growMisfits_62 : decode cX7_growMisfits 62 = .ok (.goto (-51), 3) := by decide +kernel
theorem dX7_growMisfits_65 : decode cX7_growMisfits 65 = .ok (.iload_n 1, 1) := by decide +kernel
theorem dX7_growMisfits_66 : decode cX7_growMisfits 66 = .ok (.ireturn, 1) := by decide +kernel
theorem dX7_shrinkAll_0 : decode cX7_shrinkAll 0 = .ok (.iconst 0, 1) := by decide +kernel
theorem dX7_shrinkAll_1 : decode cX7_shrinkAll 1 = .ok (.istore_n 1, 1) := by decide +kernel
theorem dX7_shrinkAll_2 : decode cX7_shrinkAll 2 = .ok (.iconst 1, 1) := by decide +kernel
theorem dX7_shrinkAll_3 : decode cX7_shrinkAll 3 = .ok (.istore_n 2, 1) := by decide +kernel
theorem dX7_shrinkAll_4 : decode cX7_shrinkAll 4 = .ok (.iconst 0, 1) := by decide +kernel
theorem dX7_shrinkAll_5 : decode cX7_shrinkAll 5 = .ok (.istore_n 3, 1) := by decide +kernel
theorem dX7_shrinkAll_6 : decode cX7_shrinkAll 6 = .ok (.iload_n 2, 1) := by decide +kernel
theorem dX7_shrinkAll_7 : decode cX7_shrinkAll 7 = .ok (.ifCond .eq 64, 3) := by decide +kernel
theorem dX7_shrinkAll_10 : decode cX7_shrinkAll 10 = .ok (.iload_n 3, 1) := by decide +kernel
theorem dX7_shrinkAll_11 : decode cX7_shrinkAll 11 = .ok (.bipush 80, 2) := by decide +kernel
theorem dX7_shrinkAll_13 : decode cX7_shrinkAll 13 = .ok (.if_icmp .gt 58, 3) := by decide +kernel
theorem dX7_shrinkAll_16 : decode cX7_shrinkAll 16 = .ok (.iconst 0, 1) := by decide +kernel
theorem dX7_shrinkAll_17 : decode cX7_shrinkAll 17 = .ok (.istore_n 2, 1) := by decide +kernel
theorem dX7_shrinkAll_18 : decode cX7_shrinkAll 18 = .ok (.iconst 0, 1) := by decide +kernel
theorem dX7_shrinkAll_19 : decode cX7_shrinkAll 19 = .ok (.istore 4, 2) := by decide +kernel
theorem dX7_shrinkAll_21 : decode cX7_shrinkAll 21 = .ok (.iload 4, 2) := by decide +kernel
theorem dX7_shrinkAll_23 : decode cX7_shrinkAll 23 = .ok (.aload_n 0, 1) := by decide +kernel
theorem dX7_shrinkAll_24 : decode cX7_shrinkAll 24 = .ok (.getfield 9, 3) := by decide +kernel
theorem dX7_shrinkAll_27 : decode cX7_shrinkAll 27 = .ok (.invokevirtual 23, 3) := by decide +kernel
theorem dX7_shrinkAll_30 : decode cX7_shrinkAll 30 = .ok (.if_icmp .ge 35, 3) := by decide +kernel
theorem dX7_shrinkAll_33 : decode cX7_shrinkAll 33 = .ok (.aload_n 0, 1) := by decide +kernel
theorem dX7_shrinkAll_34 : decode cX7_shrinkAll 34 = .ok (.getfield 9, 3) := by decide +kernel
theorem dX7_shrinkAll_37 : decode cX7_shrinkAll 37 = .ok (.iload 4, 2) := by decide +kernel
theorem dX7_shrinkAll_39 : decode cX7_shrinkAll 39 = .ok (.invokevirtual 33, 3) := by decide +kernel
theorem dX7_shrinkAll_42 : decode cX7_shrinkAll 42 = .ok (.ifCond .le 17, 3) := by decide +kernel
theorem dX7_shrinkAll_45 : decode cX7_shrinkAll 45 = .ok (.aload_n 0, 1) := by decide +kernel
theorem dX7_shrinkAll_46 : decode cX7_shrinkAll 46 = .ok (.iload 4, 2) := by decide +kernel
theorem dX7_shrinkAll_48 : decode cX7_shrinkAll 48 = .ok (.invokevirtual 76, 3) := by decide +kernel
theorem dX7_shrinkAll_51 : decode cX7_shrinkAll 51 = .ok (.ifCond .eq 8, 3) := by decide +kernel
theorem dX7_shrinkAll_54 : decode cX7_shrinkAll 54 = .ok (.iconst 1, 1) := by decide +kernel
theorem dX7_shrinkAll_55 : decode cX7_shrinkAll 55 = .ok (.istore_n 2, 1) := by decide +kernel
theorem dX7_shrinkAll_56 : decode cX7_shrinkAll 56 = .ok (.iinc 1 1, 3) := by decide +kernel
theorem dX7_shrinkAll_59 : decode cX7_shrinkAll 59 = .ok (.iinc 4 1, 3) := by decide +kernel
theorem dX7_shrinkAll_62 : decode cX7_shrinkAll 62 = .ok (.goto (-41), 3) := by decide +kernel
theorem dX7_shrinkAll_65 : decode cX7_shrinkAll 65 = .ok (.iinc 3 1, 3) := by decide +kernel
theorem dX7_shrinkAll_68 : decode cX7_shrinkAll 68 = .ok (.goto (-62), 3) := by decide +kernel
theorem dX7_shrinkAll_71 : decode cX7_shrinkAll 71 = .ok (.iload_n 1, 1) := by decide +kernel
theorem dX7_shrinkAll_72 : decode cX7_shrinkAll 72 = .ok (.ireturn, 1) := by decide +kernel
theorem dX7_shrinkIfAllFit_0 : decode cX7_shrinkIfAllFit 0 = .ok (.aload_n 0, 1) := by decide +kernel
theorem dX7_shrinkIfAllFit_1 : decode cX7_shrinkIfAllFit 1 = .ok (.getfield 9, 3) := by decide +kernel
theorem dX7_shrinkIfAllFit_4 : decode cX7_shrinkIfAllFit 4 = .ok (.iload_n 1, 1) := by decide +kernel
theorem dX7_shrinkIfAllFit_5 : decode cX7_shrinkIfAllFit 5 = .ok (.invokevirtual 33, 3) := by decide +kernel
theorem dX7_shrinkIfAllFit_8 : decode cX7_shrinkIfAllFit 8 = .ok (.istore_n 2, 1) := by decide +kernel
theorem dX7_shrinkIfAllFit_9 : decode cX7_shrinkIfAllFit 9 = .ok (.aload_n 0, 1) := by decide +kernel
theorem dX7_shrinkIfAllFit_10 : decode cX7_shrinkIfAllFit 10 = .ok (.getfield 9, 3) := by decide +kernel
theorem dX7_shrinkIfAllFit_13 : decode cX7_shrinkIfAllFit 13 = .ok (.iload_n 1, 1) := by decide +kernel
theorem dX7_shrinkIfAllFit_14 : decode cX7_shrinkIfAllFit 14 = .ok (.iload_n 2, 1) := by decide +kernel
theorem dX7_shrinkIfAllFit_15 : decode cX7_shrinkIfAllFit 15 = .ok (.iconst 1, 1) := by decide +kernel
theorem dX7_shrinkIfAllFit_16 : decode cX7_shrinkIfAllFit 16 = .ok (.isub, 1) := by decide +kernel
theorem dX7_shrinkIfAllFit_17 : decode cX7_shrinkIfAllFit 17 = .ok (.invokevirtual 65, 3) := by decide +kernel
theorem dX7_shrinkIfAllFit_20 : decode cX7_shrinkIfAllFit 20 = .ok (.aload_n 0, 1) := by decide +kernel
theorem dX7_shrinkIfAllFit_21 : decode cX7_shrinkIfAllFit 21 = .ok (.getfield 19, 3) := by decide +kernel
theorem dX7_shrinkIfAllFit_24 : decode cX7_shrinkIfAllFit 24 = .ok (.invokevirtual 73, 3) := by decide +kernel
theorem dX7_shrinkIfAllFit_27 : decode cX7_shrinkIfAllFit 27 = .ok (.aload_n 0, 1) := by decide +kernel
theorem dX7_shrinkIfAllFit_28 : decode cX7_shrinkIfAllFit 28 = .ok (.invokevirtual 79, 3) := by decide +kernel
theorem dX7_shrinkIfAllFit_31 : decode cX7_shrinkIfAllFit 31 = .ok (.ifCond .ne 5, 3) := by decide +kernel
theorem dX7_shrinkIfAllFit_34 : decode cX7_shrinkIfAllFit 34 = .ok (.iconst 1, 1) := by decide +kernel
theorem dX7_shrinkIfAllFit_35 : decode cX7_shrinkIfAllFit 35 = .ok (.ireturn, 1) := by decide +kernel
theorem dX7_shrinkIfAllFit_36 : decode cX7_shrinkIfAllFit 36 = .ok (.aload_n 0, 1) := by decide +kernel
theorem dX7_shrinkIfAllFit_37 : decode cX7_shrinkIfAllFit 37 = .ok (.getfield 9, 3) := by decide +kernel
theorem dX7_shrinkIfAllFit_40 : decode cX7_shrinkIfAllFit 40 = .ok (.iload_n 1, 1) := by decide +kernel
theorem dX7_shrinkIfAllFit_41 : decode cX7_shrinkIfAllFit 41 = .ok (.iload_n 2, 1) := by decide +kernel
theorem dX7_shrinkIfAllFit_42 : decode cX7_shrinkIfAllFit 42 = .ok (.invokevirtual 65, 3) := by decide +kernel
theorem dX7_shrinkIfAllFit_45 : decode cX7_shrinkIfAllFit 45 = .ok (.iconst 0, 1) := by decide +kernel
theorem dX7_shrinkIfAllFit_46 : decode cX7_shrinkIfAllFit 46 = .ok (.ireturn, 1) := by decide +kernel
end
section
theorem dX8_init_0 : decode cX8_init 0 = .ok (.aload_n 0, 1) := by decide +kernel
theorem dX8_init_1 : decode cX8_init 1 = .ok (.invokespecial 3, 3) := by decide +kernel
theorem dX8_init_4 : decode cX8_init 4 = .ok (.aload_n 0, 1) := by decide +kernel
theorem dX8_init_5 : decode cX8_init 5 = .ok (.new 9, 3) := by decide +kernel
theorem dX8_init_8 : decode cX8_init 8 = .ok (.dup, 1) := by decide +kernel
theorem dX8_init_9 : decode cX8_init 9 = .ok (.invokespecial 11, 3) := by decide +kernel
theorem dX8_init_12 : decode cX8_init 12 = .ok (.putfield 12, 3) := by decide +kernel
theorem dX8_init_15 : decode cX8_init 15 = .ok (.aload_n 0, 1) := by decide +kernel
theorem dX8_init_16 : decode cX8_init 16 = .ok (.new 9, 3) := by decide +kernel
theorem dX8_init_19 : decode cX8_init 19 = .ok (.dup, 1) := by decide +kernel
theorem dX8_init_20 : decode cX8_init 20 = .ok (.invokespecial 11, 3) := by decide +kernel
theorem dX8_init_23 : decode cX8_init 23 = .ok (.putfield 16, 3) := by decide +kernel
theorem dX8_init_26 : decode cX8_init 26 = .ok (.aload_n 0, 1) := by decide +kernel
theorem dX8_init_27 : decode cX8_init 27 = .ok (.new 19, 3) := by decide +kernel
theorem dX8_init_30 : decode cX8_init 30 = .ok (.dup, 1) := by decide +kernel
theorem dX8_init_31 : decode cX8_init 31 = .ok (.invokespecial 21, 3) := by decide +kernel
theorem dX8_init_34 : decode cX8_init 34 = .ok (.putfield 22, 3) := by decide +kernel
theorem dX8_init_37 : decode cX8_init 37 = .ok (.aload_n 0, 1) := by decide +kernel
theorem dX8_init_38 : decode cX8_init 38 = .ok (.new 26, 3) := by decide +kernel
theorem dX8_init_41 : decode cX8_init 41 = .ok (.dup, 1) := by decide +kernel
theorem dX8_init_42 : decode cX8_init 42 = .ok (.invokespecial 28, 3) := by decide +kernel
theorem dX8_init_45 : decode cX8_init 45 = .ok (.putfield 29, 3) := by decide +kernel
theorem dX8_init_48 : decode cX8_init 48 = .ok (.aload_n 0, 1) := by decide +kernel
theorem dX8_init_49 : decode cX8_init 49 = .ok (.new 33, 3) := by decide +kernel
theorem dX8_init_52 : decode cX8_init 52 = .ok (.dup, 1) := by decide +kernel
theorem dX8_init_53 : decode cX8_init 53 = .ok (.aload_n 0, 1) := by decide +kernel
theorem dX8_init_54 : decode cX8_init 54 = .ok (.getfield 12, 3) := by decide +kernel
theorem dX8_init_57 : decode cX8_init 57 = .ok (.invokespecial 35, 3) := by decide +kernel
theorem dX8_init_60 : decode cX8_init 60 = .ok (.putfield 38, 3) := by decide +kernel
theorem dX8_init_63 : decode cX8_init 63 = .ok (.aload_n 0, 1) := by decide +kernel
theorem dX8_init_64 : decode cX8_init 64 = .ok (.new 42, 3) := by decide +kernel
theorem dX8_init_67 : decode cX8_init 67 = .ok (.dup, 1) := by decide +kernel
theorem dX8_init_68 : decode cX8_init 68 = .ok (.aload_n 0, 1) := by decide +kernel
theorem dX8_init_69 : decode cX8_init 69 = .ok (.getfield 12, 3) := by decide +kernel
theorem dX8_init_72 : decode cX8_init 72 = .ok (.aload_n 0, 1) := by decide +kernel
theorem dX8_init_73 : decode cX8_init 73 = .ok (.getfield 38, 3) := by decide +kernel
theorem dX8_init_76 : decode cX8_init 76 = .ok (.invokespecial 44, 3) := by decide +kernel
theorem dX8_init_79 : decode cX8_init 79 = .ok (.putfield 47, 3) := by decide +kernel
theorem dX8_init_82 : decode cX8_init 82 = .ok (.aload_n 0, 1) := by decide +kernel
theorem dX8_init_83 : decode cX8_init 83 = .ok (.new 51, 3) := by decide +kernel
theorem dX8_init_86 : decode cX8_init 86 = .ok (.dup, 1) := by decide +kernel
theorem dX8_init_87 : decode cX8_init 87 = .ok (.aload_n 0, 1) := by decide +kernel
theorem dX8_init_88 : decode cX8_init 88 = .ok (.getfield 12, 3) := by decide +kernel
theorem dX8_init_91 : decode cX8_init 91 = .ok (.aload_n 0, 1) := by decide +kernel
theorem dX8_init_92 : decode cX8_init 92 = .ok (.getfield 38, 3) := by decide +kernel
theorem dX8_init_95 : decode cX8_init 95 = .ok (.aload_n 0, 1) := by decide +kernel
theorem dX8_init_96 : decode cX8_init 96 = .ok (.getfield 47, 3) := by decide +kernel
theorem dX8_init_99 : decode cX8_init 99 = .ok (.invokespecial 53, 3) := by decide +kernel
theorem dX8_init_102 : decode cX8_init 102 = .ok (.putfield 56, 3) := by decide +kernel
theorem dX8_init_105 : decode cX8_init 105 = .ok (.aload_n 0, 1) := by decide +kernel
theorem dX8_init_106 : decode cX8_init 106 = .ok (.new 60, 3) := by decide +kernel
theorem dX8_init_109 : decode cX8_init 109 = .ok (.dup, 1) := by decide +kernel
theorem dX8_init_110 : decode cX8_init 110 = .ok (.aload_n 0, 1) := by decide +kernel
theorem dX8_init_111 : decode cX8_init 111 = .ok (.getfield 12, 3) := by decide +kernel
theorem dX8_init_114 : decode cX8_init 114 = .ok (.aload_n 0, 1) := by decide +kernel
theorem dX8_init_115 : decode cX8_init 115 = .ok (.getfield 38, 3) := by decide +kernel
theorem dX8_init_118 : decode cX8_init 118 = .ok (.aload_n 0, 1) := by decide +kernel
theorem dX8_init_119 : decode cX8_init 119 = .ok (.getfield 47, 3) := by decide +kernel
theorem dX8_init_122 : decode cX8_init 122 = .ok (.invokespecial 62, 3) := by decide +kernel
theorem dX8_init_125 : decode cX8_init 125 = .ok (.putfield 63, 3) := by decide +kernel
theorem dX8_init_128 : decode cX8_init 128 = .ok (.aload_n 0, 1) := by decide +kernel
theorem dX8_init_129 : decode cX8_init 129 = .ok (.new 67, 3) := by decide +kernel
theorem dX8_init_132 : decode cX8_init 132 = .ok (.dup, 1) := by decide +kernel
theorem dX8_init_133 : decode cX8_init 133 = .ok (.aload_n 0, 1) := by decide +kernel
theorem dX8_init_134 : decode cX8_init 134 = .ok (.getfield 12, 3) := by decide +kernel
theorem dX8_init_137 : decode cX8_init 137 = .ok (.aload_n 0, 1) := by decide +kernel
theorem dX8_init_138 : decode cX8_init 138 = .ok (.getfield 47, 3) := by decide +kernel
theorem dX8_init_141 : decode cX8_init 141 = .ok (.invokespecial 69, 3) := by decide +kernel
theorem dX8_init_144 : decode cX8_init 144 = .ok (.putfield 72, 3) := by decide +kernel
theorem dX8_init_147 : decode cX8_init 147 = .ok (.aload_n 0, 1) := by decide +kernel
theorem dX8_init_148 : decode cX8_init 148 = .ok (.iconst 0, 1) := by decide +kernel
theorem dX8_init_149 : decode cX8_init 149 = .ok (.putfield 76, 3) := by decide +kernel
theorem dX8_init_152 : decode cX8_init 152 = .ok (.aload_n 0, 1) := by decide +kernel
theorem dX8_init_153 : decode cX8_init 153 = .ok (.iconst (-1), 1) := by decide +kernel
theorem dX8_init_154 : decode cX8_init 154 = .ok (.putfield 80, 3) := by decide +kernel
theorem dX8_init_157 : decode cX8_init 157 = .ok (.return_, 1) := by decide +kernel
theorem dX8_reset_0 : decode cX8_reset 0 = .ok (.aload_n 0, 1) := by decide +kernel
theorem dX8_reset_1 : decode cX8_reset 1 = .ok (.getfield 12, 3) := by decide +kernel
theorem dX8_reset_4 : decode cX8_reset 4 = .ok (.invokevirtual 84, 3) := by decide +kernel
theorem dX8_reset_7 : decode cX8_reset 7 = .ok (.istore_n 1, 1) := by decide +kernel
theorem dX8_reset_8 : decode cX8_reset 8 = .ok (.aload_n 0, 1) := by decide +kernel
theorem dX8_reset_9 : decode cX8_reset 9 = .ok (.getfield 12, 3) := by decide +kernel
theorem dX8_reset_12 : decode cX8_reset 12 = .ok (.invokevirtual 88, 3) := by decide +kernel
theorem dX8_reset_15 : decode cX8_reset 15 = .ok (.aload_n 0, 1) := by decide +kernel
theorem dX8_reset_16 : decode cX8_reset 16 = .ok (.getfield 22, 3) := by decide +kernel
theorem dX8_reset_19 : decode cX8_reset 19 = .ok (.invokevirtual 91, 3) := by decide +kernel
theorem dX8_reset_22 : decode cX8_reset 22 = .ok (.iload_n 1, 1) := by decide +kernel
theorem dX8_reset_23 : decode cX8_reset 23 = .ok (.ireturn, 1) := by decide +kernel
theorem dX8_itemCount_0 : decode cX8_itemCount 0 = .ok (.aload_n 0, 1) := by decide +kernel
theorem dX8_itemCount_1 : decode cX8_itemCount 1 = .ok (.getfield 12, 3) := by decide +kernel
theorem dX8_itemCount_4 : decode cX8_itemCount 4 = .ok (.invokevirtual 84, 3) := by decide +kernel
theorem dX8_itemCount_7 : decode cX8_itemCount 7 = .ok (.ireturn, 1) := by decide +kernel
theorem dX8_append_0 : decode cX8_append 0 = .ok (.iload_n 1, 1) := by decide +kernel
theorem dX8_append_1 : decode cX8_append 1 = .ok (.bipush 32, 2) := by decide +kernel
theorem dX8_append_3 : decode cX8_append 3 = .ok (.if_icmp .lt 9, 3) := by decide +kernel
theorem dX8_append_6 : decode cX8_append 6 = .ok (.iload_n 1, 1) := by decide +kernel
theorem dX8_append_7 : decode cX8_append 7 = .ok (.bipush 126, 2) := by decide +kernel
theorem dX8_append_9 : decode cX8_append 9 = .ok (.if_icmp .le 13, 3) := by decide +kernel
theorem dX8_append_12 : decode cX8_append 12 = .ok (.new 94, 3) := by decide +kernel
theorem dX8_append_15 : decode cX8_append 15 = .ok (.dup, 1) := by decide +kernel
theorem dX8_append_16 : decode cX8_append 16 = .ok (.ldc 96, 2) := by decide +kernel
theorem dX8_append_18 : decode cX8_append 18 = .ok (.invokespecial 98, 3) := by decide +kernel
theorem dX8_append_21 : decode cX8_append 21 = .ok (.athrow, 1) := by decide +kernel
theorem dX8_append_22 : decode cX8_append 22 = .ok (.aload_n 0, 1) := by decide +kernel
theorem dX8_append_23 : decode cX8_append 23 = .ok (.getfield 29, 3) := by decide +kernel
theorem dX8_append_26 : decode cX8_append 26 = .ok (.invokevirtual 101, 3) := by decide +kernel
theorem dX8_append_29 : decode cX8_append 29 = .ok (.ifCond .eq 13, 3) := by decide +kernel
theorem dX8_append_32 : decode cX8_append 32 = .ok (.new 105, 3) := by decide +kernel
theorem dX8_append_35 : decode cX8_append 35 = .ok (.dup, 1) := by decide +kernel
theorem dX8_append_36 : decode cX8_append 36 = .ok (.ldc 107, 2) := by decide +kernel
theorem dX8_append_38 : decode cX8_append 38 = .ok (.invokespecial 109, 3) := by decide +kernel
theorem dX8_append_41 : decode cX8_append 41 = .ok (.athrow, 1) := by decide +kernel
theorem dX8_append_42 : decode cX8_append 42 = .ok (.aload_n 0, 1) := by decide +kernel
theorem dX8_append_43 : decode cX8_append 43 = .ok (.getfield 29, 3) := by decide +kernel
theorem dX8_append_46 : decode cX8_append 46 = .ok (.iload_n 1, 1) := by decide +kernel
theorem dX8_append_47 : decode cX8_append 47 = .ok (.invokevirtual 110, 3) := by decide +kernel
theorem dX8_append_50 : decode cX8_append 50 = .ok (.ireturn, 1) := by decide +kernel
theorem dX8_insert_0 : decode cX8_insert 0 = .ok (.aload_n 0, 1) := by decide +kernel
theorem dX8_insert_1 : decode cX8_insert 1 = .ok (.getfield 29, 3) := by decide +kernel
theorem dX8_insert_4 : decode cX8_insert 4 = .ok (.invokevirtual 114, 3) := by decide +kernel
theorem dX8_insert_7 : decode cX8_insert 7 = .ok (.iload_n 1, 1) := by decide +kernel
theorem dX8_insert_8 : decode cX8_insert 8 = .ok (.ifCond .lt 14, 3) := by decide +kernel
theorem dX8_insert_11 : decode cX8_insert 11 = .ok (.iload_n 1, 1) := by decide +kernel
theorem dX8_insert_12 : decode cX8_insert 12 = .ok (.aload_n 0, 1) := by decide +kernel
theorem dX8_insert_13 : decode cX8_insert 13 = .ok (.getfield 12, 3) := by decide +kernel
theorem dX8_insert_16 : decode cX8_insert 16 = .ok (.invokevirtual 84, 3) := by decide +kernel
theorem dX8_insert_19 : decode cX8_insert 19 = .ok (.if_icmp .le 13, 3) := by decide +kernel
theorem dX8_insert_22 : decode cX8_insert 22 = .ok (.new 117, 3) := by decide +kernel
theorem dX8_insert_25 : decode cX8_insert 25 = .ok (.dup, 1) := by decide +kernel
theorem dX8_insert_26 : decode cX8_insert 26 = .ok (.ldc 119, 2) := by decide +kernel
theorem dX8_insert_28 : decode cX8_insert 28 = .ok (.invokespecial 121, 3) := by decide +kernel
theorem dX8_insert_31 : decode cX8_insert 31 = .ok (.athrow, 1) := by decide +kernel
theorem dX8_insert_32 : decode cX8_insert 32 = .ok (.aload_n 0, 1) := by decide +kernel
theorem dX8_insert_33 : decode cX8_insert 33 = .ok (.getfield 29, 3) := by decide +kernel
theorem dX8_insert_36 : decode cX8_insert 36 = .ok (.invokevirtual 122, 3) := by decide +kernel
theorem dX8_insert_39 : decode cX8_insert 39 = .ok (.ifCond .ne 24, 3) := by decide +kernel
theorem dX8_insert_42 : decode cX8_insert 42 = .ok (.aload_n 0, 1) := by decide +kernel
theorem dX8_insert_43 : decode cX8_insert 43 = .ok (.aload_n 0, 1) := by decide +kernel
theorem dX8_insert_44 : decode cX8_insert 44 = .ok (.getfield 29, 3) := by decide +kernel
theorem dX8_insert_47 : decode cX8_insert 47 = .ok (.invokevirtual 125, 3) := by decide +kernel
theorem dX8_insert_50 : decode cX8_insert 50 = .ok (.putfield 80, 3) := by decide +kernel
theorem dX8_insert_53 : decode cX8_insert 53 = .ok (.new 94, 3) := by decide +kernel
theorem dX8_insert_56 : decode cX8_insert 56 = .ok (.dup, 1) := by decide +kernel
theorem dX8_insert_57 : decode cX8_insert 57 = .ok (.ldc 128, 2) := by decide +kernel
theorem dX8_insert_59 : decode cX8_insert 59 = .ok (.invokespecial 98, 3) := by decide +kernel
theorem dX8_insert_62 : decode cX8_insert 62 = .ok (.athrow, 1) := by decide +kernel
theorem dX8_insert_63 : decode cX8_insert 63 = .ok (.aload_n 0, 1) := by decide +kernel
theorem dX8_insert_64 : decode cX8_insert 64 = .ok (.getfield 29, 3) := by decide +kernel
theorem dX8_insert_67 : decode cX8_insert 67 = .ok (.invokevirtual 130, 3) := by decide +kernel
theorem dX8_insert_70 : decode cX8_insert 70 = .ok (.istore_n 2, 1) := by decide +kernel
theorem dX8_insert_71 : decode cX8_insert 71 = .ok (.aload_n 0, 1) := by decide +kernel
theorem dX8_insert_72 : decode cX8_insert 72 = .ok (.getfield 29, 3) := by decide +kernel
theorem dX8_insert_75 : decode cX8_insert 75 = .ok (.invokevirtual 133, 3) := by decide +kernel
theorem dX8_insert_78 : decode cX8_insert 78 = .ok (.istore_n 3, 1) := by decide +kernel
theorem dX8_insert_79 : decode cX8_insert 79 = .ok (.iload_n 2, 1) := by decide +kernel
theorem dX8_insert_80 : decode cX8_insert 80 = .ok (.iload_n 3, 1) := by decide +kernel
theorem dX8_insert_81 : decode cX8_insert 81 = .ok (.invokestatic 136, 3) := by decide +kernel
theorem dX8_insert_84 : decode cX8_insert 84 = .ok (.ifCond .ne 13, 3) := by decide +kernel
theorem dX8_insert_87 : decode cX8_insert 87 = .ok (.new 94, 3) := by decide +kernel
theorem dX8_insert_90 : decode cX8_insert 90 = .ok (.dup, 1) := by decide +kernel
theorem dX8_insert_91 : decode cX8_insert 91 = .ok (.ldc 140, 2) := by decide +kernel
theorem dX8_insert_93 : decode cX8_insert 93 = .ok (.invokespecial 98, 3) := by decide +kernel
theorem dX8_insert_96 : decode cX8_insert 96 = .ok (.athrow, 1) := by decide +kernel
theorem dX8_insert_97 : decode cX8_insert 97 = .ok (.aload_n 0, 1) := by decide +kernel
theorem dX8_insert_98 : decode cX8_insert 98 = .ok (.getfield 12, 3) := by decide +kernel
theorem dX8_insert_101 : decode cX8_insert 101 = .ok (.invokevirtual 142, 3) := by decide +kernel
theorem dX8_insert_104 : decode cX8_insert 104 = .ok (.ifCond .ne 19, 3) := by decide +kernel
theorem dX8_insert_107 : decode cX8_insert 107 = .ok (.iload_n 2, 1) := by decide +kernel
theorem dX8_insert_108 : decode cX8_insert 108 = .ok (.iconst 2, 1) := by decide +kernel
theorem dX8_insert_109 : decode cX8_insert 109 = .ok (.if_icmp .ne 24, 3) := by decide +kernel
theorem dX8_insert_112 : decode cX8_insert 112 = .ok (.aload_n 0, 1) := by decide +kernel
theorem dX8_insert_113 : decode cX8_insert 113 = .ok (.getfield 12, 3) := by decide +kernel
theorem dX8_insert_116 : decode cX8_insert 116 = .ok (.iload_n 3, 1) := by decide +kernel
theorem dX8_insert_117 : decode cX8_insert 117 = .ok (.invokevirtual 143, 3) := by decide +kernel
theorem dX8_insert_120 : decode cX8_insert 120 = .ok (.ifCond .eq 13, 3) := by decide +kernel
theorem dX8_insert_123 : decode cX8_insert 123 = .ok (.new 105, 3) := by decide +kernel
theorem dX8_insert_126 : decode cX8_insert 126 = .ok (.dup, 1) := by decide +kernel
theorem dX8_insert_127 : decode cX8_insert 127 = .ok (.ldc 147, 2) := by decide +kernel
theorem dX8_insert_129 : decode cX8_insert 129 = .ok (.invokespecial 109, 3) := by decide +kernel
theorem dX8_insert_132 : decode cX8_insert 132 = .ok (.athrow, 1) := by decide +kernel
theorem dX8_insert_133 : decode cX8_insert 133 = .ok (.aload_n 0, 1) := by decide +kernel
theorem dX8_insert_134 : decode cX8_insert 134 = .ok (.getfield 22, 3) := by decide +kernel
theorem dX8_insert_137 : decode cX8_insert 137 = .ok (.aload_n 0, 1) := by decide +kernel
theorem dX8_insert_138 : decode cX8_insert 138 = .ok (.getfield 12, 3) := by decide +kernel
theorem dX8_insert_141 : decode cX8_insert 141 = .ok (.invokevirtual 149, 3) := by decide +kernel
theorem dX8_insert_144 : decode cX8_insert 144 = .ok (.aload_n 0, 1) := by decide +kernel
theorem dX8_insert_145 : decode cX8_insert 145 = .ok (.getfield 12, 3) := by decide +kernel
theorem dX8_insert_148 : decode cX8_insert 148 = .ok (.iload_n 1, 1) := by decide +kernel
theorem dX8_insert_149 : decode cX8_insert 149 = .ok (.iload_n 2, 1) := by decide +kernel
theorem dX8_insert_150 : decode cX8_insert 150 = .ok (.iload_n 3, 1) := by decide +kernel
theorem dX8_insert_151 : decode cX8_insert 151 = .ok (.iconst 0, 1) := by decide +kernel
theorem dX8_insert_152 : decode cX8_insert 152 = .ok (.invokevirtual 152, 3) := by decide +kernel
theorem dX8_insert_155 : decode cX8_insert 155 = .ok (.iload_n 2, 1) := by decide +kernel
theorem dX8_insert_156 : decode cX8_insert 156 = .ok (.ireturn, 1) := by decide +kernel
theorem dX8_errorPosition_0 : decode cX8_errorPosition 0 = .ok (.aload_n 0, 1) := by decide +kernel
theorem dX8_errorPosition_1 : decode cX8_errorPosition 1 = .ok (.getfield 80, 3) := by decide +kernel
theorem dX8_errorPosition_4 : decode cX8_errorPosition 4 = .ok (.iconst (-1), 1) := by decide +kernel
theorem dX8_errorPosition_5 : decode cX8_errorPosition 5 = .ok (.if_icmp .ne 13, 3) := by decide +kernel
theorem dX8_errorPosition_8 : decode cX8_errorPosition 8 = .ok (.new 156, 3) := by decide +kernel
theorem dX8_errorPosition_11 : decode cX8_errorPosition 11 = .ok (.dup, 1) := by decide +kernel
theorem dX8_errorPosition_12 : decode cX8_errorPosition 12 = .ok (.ldc 158, 2) := by decide +kernel
theorem dX8_errorPosition_14 : decode cX8_errorPosition 14 = .ok (.invokespecial 160, 3) := by decide +kernel
theorem dX8_errorPosition_17 : decode cX8_errorPosition 17 = .ok (.athrow, 1) := by decide +kernel
theorem dX8_errorPosition_18 : decode cX8_errorPosition 18 = .ok (.aload_n 0, 1) := by decide +kernel
theorem dX8_errorPosition_19 : decode cX8_errorPosition 19 = .ok (.getfield 80, 3) := by decide +kernel
theorem dX8_errorPosition_22 : decode cX8_errorPosition 22 = .ok (.ireturn, 1) := by decide +kernel
theorem dX8_remove_0 : decode cX8_remove 0 = .ok (.aload_n 0, 1) := by decide +kernel
theorem dX8_remove_1 : decode cX8_remove 1 = .ok (.iload_n 1, 1) := by decide +kernel
theorem dX8_remove_2 : decode cX8_remove 2 = .ok (.invokevirtual 161, 3) := by decide +kernel
theorem dX8_remove_5 : decode cX8_remove 5 = .ok (.aload_n 0, 1) := by decide +kernel
theorem dX8_remove_6 : decode cX8_remove 6 = .ok (.getfield 22, 3) := by decide +kernel
theorem dX8_remove_9 : decode cX8_remove 9 = .ok (.aload_n 0, 1) := by decide +kernel
theorem dX8_remove_10 : decode cX8_remove 10 = .ok (.getfield 12, 3) := by decide +kernel
theorem dX8_remove_13 : decode cX8_remove 13 = .ok (.invokevirtual 149, 3) := by decide +kernel
theorem dX8_remove_16 : decode cX8_remove 16 = .ok (.aload_n 0, 1) := by decide +kernel
theorem dX8_remove_17 : decode cX8_remove 17 = .ok (.getfield 12, 3) := by decide +kernel
theorem dX8_remove_20 : decode cX8_remove 20 = .ok (.iload_n 1, 1) := by decide +kernel
theorem dX8_remove_21 : decode cX8_remove 21 = .ok (.invokevirtual 165, 3) := by decide +kernel
theorem dX8_remove_24 : decode cX8_remove 24 = .ok (.aload_n 0, 1) := by decide +kernel
theorem dX8_remove_25 : decode cX8_remove 25 = .ok (.getfield 12, 3) := by decide +kernel
theorem dX8_remove_28 : decode cX8_remove 28 = .ok (.invokevirtual 84, 3) := by decide +kernel
theorem dX8_remove_31 : decode cX8_remove 31 = .ok (.ireturn, 1) := by decide +kernel
theorem dX8_move_0 : decode cX8_move 0 = .ok (.aload_n 0, 1) := by decide +kernel
theorem dX8_move_1 : decode cX8_move 1 = .ok (.iload_n 1, 1) := by decide +kernel
theorem dX8_move_2 : decode cX8_move 2 = .ok (.invokevirtual 161, 3) := by decide +kernel
theorem dX8_move_5 : decode cX8_move 5 = .ok (.aload_n 0, 1) := by decide +kernel
theorem dX8_move_6 : decode cX8_move 6 = .ok (.iload_n 2, 1) := by decide +kernel
theorem dX8_move_7 : decode cX8_move 7 = .ok (.invokevirtual 161, 3) := by decide +kernel
theorem dX8_move_10 : decode cX8_move 10 = .ok (.aload_n 0, 1) := by decide +kernel
theorem dX8_move_11 : decode cX8_move 11 = .ok (.getfield 22, 3) := by decide +kernel
theorem dX8_move_14 : decode cX8_move 14 = .ok (.aload_n 0, 1) := by decide +kernel
theorem dX8_move_15 : decode cX8_move 15 = .ok (.getfield 12, 3) := by decide +kernel
theorem dX8_move_18 : decode cX8_move 18 = .ok (.invokevirtual 149, 3) := by decide +kernel
theorem dX8_move_21 : decode cX8_move 21 = .ok (.aload_n 0, 1) := by decide +kernel
theorem dX8_move_22 : decode cX8_move 22 = .ok (.getfield 12, 3) := by decide +kernel
theorem dX8_move_25 : decode cX8_move 25 = .ok (.iload_n 1, 1) := by decide +kernel
theorem dX8_move_26 : decode cX8_move 26 = .ok (.invokevirtual 168, 3) := by decide +kernel
theorem dX8_move_29 : decode cX8_move 29 = .ok (.istore_n 3, 1) := by decide +kernel
theorem dX8_move_30 : decode cX8_move 30 = .ok (.aload_n 0, 1) := by decide +kernel
theorem dX8_move_31 : decode cX8_move 31 = .ok (.getfield 12, 3) := by decide +kernel
theorem dX8_move_34 : decode cX8_move 34 = .ok (.iload_n 1, 1) := by decide +kernel
theorem dX8_move_35 : decode cX8_move 35 = .ok (.invokevirtual 172, 3) := by decide +kernel
theorem dX8_move_38 : decode cX8_move 38 = .ok (.istore 4, 2) := by decide +kernel
theorem dX8_move_40 : decode cX8_move 40 = .ok (.aload_n 0, 1) := by decide +kernel
theorem dX8_move_41 : decode cX8_move 41 = .ok (.getfield 12, 3) := by decide +kernel
theorem dX8_move_44 : decode cX8_move 44 = .ok (.iload_n 1, 1) := by decide +kernel
theorem dX8_move_45 : decode cX8_move 45 = .ok (.invokevirtual 175, 3) := by decide +kernel
theorem dX8_move_48 : decode cX8_move 48 = .ok (.istore 5, 2) := by decide +kernel
theorem dX8_move_50 : decode cX8_move 50 = .ok (.aload_n 0, 1) := by decide +kernel
theorem dX8_move_51 : decode cX8_move 51 = .ok (.getfield 12, 3) := by decide +kernel
theorem dX8_move_54 : decode cX8_move 54 = .ok (.iload_n 1, 1) := by decide +kernel
theorem dX8_move_55 : decode cX8_move 55 = .ok (.invokevirtual 165, 3) := by decide +kernel
theorem dX8_move_58 : decode cX8_move 58 = .ok (.aload_n 0, 1) := by decide +kernel
theorem dX8_move_59 : decode cX8_move 59 = .ok (.getfield 12, 3) := by decide +kernel
theorem dX8_move_62 : decode cX8_move 62 = .ok (.iload_n 2, 1) := by decide +kernel
theorem dX8_move_63 : decode cX8_move 63 = .ok (.iload_n 3, 1) := by decide +kernel
theorem dX8_move_64 : decode cX8_move 64 = .ok (.iload 4, 2) := by decide +kernel
theorem dX8_move_66 : decode cX8_move 66 = .ok (.iload 5, 2) := by decide +kernel
theorem dX8_move_68 : decode cX8_move 68 = .ok (.invokevirtual 152, 3) := by decide +kernel
theorem dX8_move_71 : decode cX8_move 71 = .ok (.iload_n 3, 1) := by decide +kernel
theorem dX8_move_72 : decode cX8_move 72 = .ok (.ireturn, 1) := by decide +kernel
theorem dX8_item_0 : decode cX8_item 0 = .ok (.aload_n 0, 1) := by decide +kernel
theorem dX8_item_1 : decode cX8_item 1 = .ok (.iload_n 1, 1) := by decide +kernel
theorem dX8_item_2 : decode cX8_item 2 = .ok (.invokevirtual 161, 3) := by decide +kernel
theorem dX8_item_5 : decode cX8_item 5 = .ok (.iload_n 2, 1) := by decide +kernel
theorem dX8_item_6 : decode cX8_item 6 = .ok (.tableswitch 79 0 4 #[34, 43, 52, 61, 70], 34) := by decide +kernel
theorem dX8_item_40 : decode cX8_item 40 = .ok (.aload_n 0, 1) := by decide +kernel
theorem dX8_item_41 : decode cX8_item 41 = .ok (.getfield 12, 3) := by decide +kernel
theorem dX8_item_44 : decode cX8_item 44 = .ok (.iload_n 1, 1) := by decide +kernel
theorem dX8_item_45 : decode cX8_item 45 = .ok (.invokevirtual 168, 3) := by decide +kernel
theorem dX8_item_48 : decode cX8_item 48 = .ok (.ireturn, 1) := by decide +kernel
theorem dX8_item_49 : decode cX8_item 49 = .ok (.aload_n 0, 1) := by decide +kernel
theorem dX8_item_50 : decode cX8_item 50 = .ok (.getfield 12, 3) := by decide +kernel
theorem dX8_item_53 : decode cX8_item 53 = .ok (.iload_n 1, 1) := by decide +kernel
theorem dX8_item_54 : decode cX8_item 54 = .ok (.invokevirtual 172, 3) := by decide +kernel
theorem dX8_item_57 : decode cX8_item 57 = .ok (.ireturn, 1) := by decide +kernel
theorem dX8_item_58 : decode cX8_item 58 = .ok (.aload_n 0, 1) := by decide +kernel
theorem dX8_item_59 : decode cX8_item 59 = .ok (.getfield 12, 3) := by decide +kernel
theorem dX8_item_62 : decode cX8_item 62 = .ok (.iload_n 1, 1) := by decide +kernel
theorem dX8_item_63 : decode cX8_item 63 = .ok (.invokevirtual 175, 3) := by decide +kernel
theorem dX8_item_66 : decode cX8_item 66 = .ok (.ireturn, 1) := by decide +kernel
theorem dX8_item_67 : decode cX8_item 67 = .ok (.aload_n 0, 1) := by decide +kernel
theorem dX8_item_68 : decode cX8_item 68 = .ok (.invokevirtual 178, 3) := by decide +kernel
theorem dX8_item_71 : decode cX8_item 71 = .ok (.iload_n 1, 1) := by decide +kernel
theorem dX8_item_72 : decode cX8_item 72 = .ok (.invokevirtual 182, 3) := by decide +kernel
theorem dX8_item_75 : decode cX8_item 75 = .ok (.ireturn, 1) := by decide +kernel
theorem dX8_item_76 : decode cX8_item 76 = .ok (.aload_n 0, 1) := by decide +kernel
theorem dX8_item_77 : decode cX8_item 77 = .ok (.invokevirtual 178, 3) := by decide +kernel
theorem dX8_item_80 : decode cX8_item 80 = .ok (.iload_n 1, 1) := by decide +kernel
theorem dX8_item_81 : decode cX8_item 81 = .ok (.invokevirtual 185, 3) := by decide +kernel
theorem dX8_item_84 : decode cX8_item 84 = .ok (.ireturn, 1) := by decide +kernel
theorem dX8_item_85 : decode cX8_item 85 = .ok (.new 94, 3) := by decide +kernel
theorem dX8_item_88 : decode cX8_item 88 = .ok (.dup, 1) := by decide +kernel
theorem dX8_item_89 : decode cX8_item 89 = .ok (.ldc 188, 2) := by decide +kernel
theorem dX8_item_91 : decode cX8_item 91 = .ok (.invokespecial 98, 3) := by decide +kernel
theorem dX8_item_94 : decode cX8_item 94 = .ok (.athrow, 1) := by decide +kernel
theorem dX8_nameCharacter_0 : decode cX8_nameCharacter 0 = .ok (.aload_n 0, 1) := by decide +kernel
theorem dX8_nameCharacter_1 : decode cX8_nameCharacter 1 = .ok (.iload_n 1, 1) := by decide +kernel
theorem dX8_nameCharacter_2 : decode cX8_nameCharacter 2 = .ok (.invokevirtual 161, 3) := by decide +kernel
theorem dX8_nameCharacter_5 : decode cX8_nameCharacter 5 = .ok (.aload_n 0, 1) := by decide +kernel
theorem dX8_nameCharacter_6 : decode cX8_nameCharacter 6 = .ok (.getfield 12, 3) := by decide +kernel
theorem dX8_nameCharacter_9 : decode cX8_nameCharacter 9 = .ok (.iload_n 1, 1) := by decide +kernel
theorem dX8_nameCharacter_10 : decode cX8_nameCharacter 10 = .ok (.invokevirtual 168, 3) := by decide +kernel
theorem dX8_nameCharacter_13 : decode cX8_nameCharacter 13 = .ok (.invokestatic 190, 3) := by decide +kernel
theorem dX8_nameCharacter_16 : decode cX8_nameCharacter 16 = .ok (.astore_n 3, 1) := by decide +kernel
theorem dX8_nameCharacter_17 : decode cX8_nameCharacter 17 = .ok (.iload_n 2, 1) := by decide +kernel
theorem dX8_nameCharacter_18 : decode cX8_nameCharacter 18 = .ok (.ifCond .lt 11, 3) := by decide +kernel
theorem dX8_nameCharacter_21 : decode cX8_nameCharacter 21 = .ok (.iload_n 2, 1) := by decide +kernel
theorem dX8_nameCharacter_22 : decode cX8_nameCharacter 22 = .ok (.aload_n 3, 1) := by decide +kernel
theorem dX8_nameCharacter_23 : decode cX8_nameCharacter 23 = .ok (.invokevirtual 194, 3) := by decide +kernel
theorem dX8_nameCharacter_26 : decode cX8_nameCharacter 26 = .ok (.if_icmp .lt 13, 3) := by decide +kernel
theorem dX8_nameCharacter_29 : decode cX8_nameCharacter 29 = .ok (.new 156, 3) := by decide +kernel
theorem dX8_nameCharacter_32 : decode cX8_nameCharacter 32 = .ok (.dup, 1) := by decide +kernel
theorem dX8_nameCharacter_33 : decode cX8_nameCharacter 33 = .ok (.ldc 199, 2) := by decide +kernel
theorem dX8_nameCharacter_35 : decode cX8_nameCharacter 35 = .ok (.invokespecial 160, 3) := by decide +kernel
theorem dX8_nameCharacter_38 : decode cX8_nameCharacter 38 = .ok (.athrow, 1) := by decide +kernel
theorem dX8_nameCharacter_39 : decode cX8_nameCharacter 39 = .ok (.aload_n 3, 1) := by decide +kernel
theorem dX8_nameCharacter_40 : decode cX8_nameCharacter 40 = .ok (.iload_n 2, 1) := by decide +kernel
theorem dX8_nameCharacter_41 : decode cX8_nameCharacter 41 = .ok (.invokevirtual 201, 3) := by decide +kernel
theorem dX8_nameCharacter_44 : decode cX8_nameCharacter 44 = .ok (.ireturn, 1) := by decide +kernel
theorem dX8_setForm_0 : decode cX8_setForm 0 = .ok (.aload_n 0, 1) := by decide +kernel
theorem dX8_setForm_1 : decode cX8_setForm 1 = .ok (.iload_n 1, 1) := by decide +kernel
theorem dX8_setForm_2 : decode cX8_setForm 2 = .ok (.invokevirtual 161, 3) := by decide +kernel
theorem dX8_setForm_5 : decode cX8_setForm 5 = .ok (.aload_n 0, 1) := by decide +kernel
theorem dX8_setForm_6 : decode cX8_setForm 6 = .ok (.iload_n 1, 1) := by decide +kernel
theorem dX8_setForm_7 : decode cX8_setForm 7 = .ok (.invokevirtual 205, 3) := by decide +kernel
theorem dX8_setForm_10 : decode cX8_setForm 10 = .ok (.aload_n 0, 1) := by decide +kernel
theorem dX8_setForm_11 : decode cX8_setForm 11 = .ok (.iload_n 2, 1) := by decide +kernel
theorem dX8_setForm_12 : decode cX8_setForm 12 = .ok (.invokevirtual 208, 3) := by decide +kernel
theorem dX8_setForm_15 : decode cX8_setForm 15 = .ok (.aload_n 0, 1) := by decide +kernel
theorem dX8_setForm_16 : decode cX8_setForm 16 = .ok (.getfield 22, 3) := by decide +kernel
theorem dX8_setForm_19 : decode cX8_setForm 19 = .ok (.aload_n 0, 1) := by decide +kernel
theorem dX8_setForm_20 : decode cX8_setForm 20 = .ok (.getfield 12, 3) := by decide +kernel
theorem dX8_setForm_23 : decode cX8_setForm 23 = .ok (.invokevirtual 149, 3) := by decide +kernel
theorem dX8_setForm_26 : decode cX8_setForm 26 = .ok (.aload_n 0, 1) := by decide +kernel
theorem dX8_setForm_27 : decode cX8_setForm 27 = .ok (.getfield 12, 3) := by decide +kernel
theorem dX8_setForm_30 : decode cX8_setForm 30 = .ok (.iload_n 1, 1) := by decide +kernel
theorem dX8_setForm_31 : decode cX8_setForm 31 = .ok (.invokevirtual 175, 3) := by decide +kernel
theorem dX8_setForm_34 : decode cX8_setForm 34 = .ok (.istore_n 3, 1) := by decide +kernel
theorem dX8_setForm_35 : decode cX8_setForm 35 = .ok (.aload_n 0, 1) := by decide +kernel
theorem dX8_setForm_36 : decode cX8_setForm 36 = .ok (.getfield 12, 3) := by decide +kernel
theorem dX8_setForm_39 : decode cX8_setForm 39 = .ok (.iload_n 1, 1) := by decide +kernel
theorem dX8_setForm_40 : decode cX8_setForm 40 = .ok (.iload_n 2, 1) := by decide +kernel
theorem dX8_setForm_41 : decode cX8_setForm 41 = .ok (.invokevirtual 211, 3) := by decide +kernel
theorem dX8_setForm_44 : decode cX8_setForm 44 = .ok (.iload_n 3, 1) := by decide +kernel
theorem dX8_setForm_45 : decode cX8_setForm 45 = .ok (.ireturn, 1) := by decide +kernel
theorem dX8_totalSize_0 : decode cX8_totalSize 0 = .ok (.aload_n 0, 1) := by decide +kernel
theorem dX8_totalSize_1 : decode cX8_totalSize 1 = .ok (.invokevirtual 178, 3) := by decide +kernel
theorem dX8_totalSize_4 : decode cX8_totalSize 4 = .ok (.invokevirtual 215, 3) := by decide +kernel
theorem dX8_totalSize_7 : decode cX8_totalSize 7 = .ok (.ireturn, 1) := by decide +kernel
theorem dX8_padding_0 : decode cX8_padding 0 = .ok (.aload_n 0, 1) := by decide +kernel
theorem dX8_padding_1 : decode cX8_padding 1 = .ok (.invokevirtual 178, 3) := by decide +kernel
theorem dX8_padding_4 : decode cX8_padding 4 = .ok (.invokevirtual 218, 3) := by decide +kernel
theorem dX8_padding_7 : decode cX8_padding 7 = .ok (.ireturn, 1) := by decide +kernel
theorem dX8_labelAddress_0 : decode cX8_labelAddress 0 = .ok (.iload_n 1, 1) := by decide +kernel
theorem dX8_labelAddress_1 : decode cX8_labelAddress 1 = .ok (.ifCond .lt 9, 3) := by decide +kernel
theorem dX8_labelAddress_4 : decode cX8_labelAddress 4 = .ok (.iload_n 1, 1) := by decide +kernel
theorem dX8_labelAddress_5 : decode cX8_labelAddress 5 = .ok (.bipush 10, 2) := by decide +kernel
theorem dX8_labelAddress_7 : decode cX8_labelAddress 7 = .ok (.if_icmp .lt 13, 3) := by decide +kernel
theorem dX8_labelAddress_10 : decode cX8_labelAddress 10 = .ok (.new 117, 3) := by decide +kernel
theorem dX8_labelAddress_13 : decode cX8_labelAddress 13 = .ok (.dup, 1) := by decide +kernel
theorem dX8_labelAddress_14 : decode cX8_labelAddress 14 = .ok (.ldc 221, 2) := by decide +kernel
theorem dX8_labelAddress_16 : decode cX8_labelAddress 16 = .ok (.invokespecial 121, 3) := by decide +kernel
theorem dX8_labelAddress_19 : decode cX8_labelAddress 19 = .ok (.athrow, 1) := by decide +kernel
theorem dX8_labelAddress_20 : decode cX8_labelAddress 20 = .ok (.aload_n 0, 1) := by decide +kernel
theorem dX8_labelAddress_21 : decode cX8_labelAddress 21 = .ok (.invokevirtual 178, 3) := by decide +kernel
theorem dX8_labelAddress_24 : decode cX8_labelAddress 24 = .ok (.pop, 1) := by decide +kernel
theorem dX8_labelAddress_25 : decode cX8_labelAddress 25 = .ok (.aload_n 0, 1) := by decide +kernel
theorem dX8_labelAddress_26 : decode cX8_labelAddress 26 = .ok (.getfield 38, 3) := by decide +kernel
theorem dX8_labelAddress_29 : decode cX8_labelAddress 29 = .ok (.iload_n 1, 1) := by decide +kernel
theorem dX8_labelAddress_30 : decode cX8_labelAddress 30 = .ok (.invokevirtual 223, 3) := by decide +kernel
theorem dX8_labelAddress_33 : decode cX8_labelAddress 33 = .ok (.istore_n 2, 1) := by decide +kernel
theorem dX8_labelAddress_34 : decode cX8_labelAddress 34 = .ok (.iload_n 2, 1) := by decide +kernel
theorem dX8_labelAddress_35 : decode cX8_labelAddress 35 = .ok (.iconst (-1), 1) := by decide +kernel
theorem dX8_labelAddress_36 : decode cX8_labelAddress 36 = .ok (.if_icmp .ne 13, 3) := by decide +kernel
theorem dX8_labelAddress_39 : decode cX8_labelAddress 39 = .ok (.new 156, 3) := by decide +kernel
theorem dX8_labelAddress_42 : decode cX8_labelAddress 42 = .ok (.dup, 1) := by decide +kernel
theorem dX8_labelAddress_43 : decode cX8_labelAddress 43 = .ok (.ldc 226, 2) := by decide +kernel
theorem dX8_labelAddress_45 : decode cX8_labelAddress 45 = .ok (.invokespecial 160, 3) := by decide +kernel
theorem dX8_labelAddress_48 : decode cX8_labelAddress 48 = .ok (.athrow, 1) := by decide +kernel
theorem dX8_labelAddress_49 : decode cX8_labelAddress 49 = .ok (.aload_n 0, 1) := by decide +kernel
theorem dX8_labelAddress_50 : decode cX8_labelAddress 50 = .ok (.getfield 47, 3) := by decide +kernel
theorem dX8_labelAddress_53 : decode cX8_labelAddress 53 = .ok (.iload_n 2, 1) := by decide +kernel
theorem dX8_labelAddress_54 : decode cX8_labelAddress 54 = .ok (.invokevirtual 185, 3) := by decide +kernel
theorem dX8_labelAddress_57 : decode cX8_labelAddress 57 = .ok (.ireturn, 1) := by decide +kernel
theorem dX8_itemAt_0 : decode cX8_itemAt 0 = .ok (.aload_n 0, 1) := by decide +kernel
theorem dX8_itemAt_1 : decode cX8_itemAt 1 = .ok (.invokevirtual 178, 3) := by decide +kernel
theorem dX8_itemAt_4 : decode cX8_itemAt 4 = .ok (.pop, 1) := by decide +kernel
theorem dX8_itemAt_5 : decode cX8_itemAt 5 = .ok (.iload_n 1, 1) := by decide +kernel
theorem dX8_itemAt_6 : decode cX8_itemAt 6 = .ok (.ifCond .lt 14, 3) := by decide +kernel
theorem dX8_itemAt_9 : decode cX8_itemAt 9 = .ok (.iload_n 1, 1) := by decide +kernel
theorem dX8_itemAt_10 : decode cX8_itemAt 10 = .ok (.aload_n 0, 1) := by decide +kernel
theorem dX8_itemAt_11 : decode cX8_itemAt 11 = .ok (.getfield 47, 3) := by decide +kernel
theorem dX8_itemAt_14 : decode cX8_itemAt 14 = .ok (.invokevirtual 228, 3) := by decide +kernel
theorem dX8_itemAt_17 : decode cX8_itemAt 17 = .ok (.if_icmp .lt 13, 3) := by decide +kernel
theorem dX8_itemAt_20 : decode cX8_itemAt 20 = .ok (.new 117, 3) := by decide +kernel
theorem dX8_itemAt_23 : decode cX8_itemAt 23 = .ok (.dup, 1) := by decide +kernel
theorem dX8_itemAt_24 : decode cX8_itemAt 24 = .ok (.ldc 231, 2) := by decide +kernel
theorem dX8_itemAt_26 : decode cX8_itemAt 26 = .ok (.invokespecial 121, 3) := by decide +kernel
theorem dX8_itemAt_29 : decode cX8_itemAt 29 = .ok (.athrow, 1) := by decide +kernel
theorem dX8_itemAt_30 : decode cX8_itemAt 30 = .ok (.aload_n 0, 1) := by decide +kernel
theorem dX8_itemAt_31 : decode cX8_itemAt 31 = .ok (.getfield 47, 3) := by decide +kernel
theorem dX8_itemAt_34 : decode cX8_itemAt 34 = .ok (.iload_n 1, 1) := by decide +kernel
theorem dX8_itemAt_35 : decode cX8_itemAt 35 = .ok (.invokevirtual 233, 3) := by decide +kernel
theorem dX8_itemAt_38 : decode cX8_itemAt 38 = .ok (.ireturn, 1) := by decide +kernel
theorem dX8_addressIf_0 : decode cX8_addressIf 0 = .ok (.aload_n 0, 1) := by decide +kernel
theorem dX8_addressIf_1 : decode cX8_addressIf 1 = .ok (.iload_n 1, 1) := by decide +kernel
theorem dX8_addressIf_2 : decode cX8_addressIf 2 = .ok (.invokevirtual 161, 3) := by decide +kernel
theorem dX8_addressIf_5 : decode cX8_addressIf 5 = .ok (.aload_n 0, 1) := by decide +kernel
theorem dX8_addressIf_6 : decode cX8_addressIf 6 = .ok (.iload_n 2, 1) := by decide +kernel
theorem dX8_addressIf_7 : decode cX8_addressIf 7 = .ok (.invokevirtual 208, 3) := by decide +kernel
theorem dX8_addressIf_10 : decode cX8_addressIf 10 = .ok (.aload_n 0, 1) := by decide +kernel
theorem dX8_addressIf_11 : decode cX8_addressIf 11 = .ok (.getfield 38, 3) := by decide +kernel
theorem dX8_addressIf_14 : decode cX8_addressIf 14 = .ok (.invokevirtual 236, 3) := by decide +kernel
theorem dX8_addressIf_17 : decode cX8_addressIf 17 = .ok (.aload_n 0, 1) := by decide +kernel
theorem dX8_addressIf_18 : decode cX8_addressIf 18 = .ok (.getfield 47, 3) := by decide +kernel
theorem dX8_addressIf_21 : decode cX8_addressIf 21 = .ok (.iload_n 1, 1) := by decide +kernel
theorem dX8_addressIf_22 : decode cX8_addressIf 22 = .ok (.iload_n 2, 1) := by decide +kernel
theorem dX8_addressIf_23 : decode cX8_addressIf 23 = .ok (.invokevirtual 237, 3) := by decide +kernel
theorem dX8_addressIf_26 : decode cX8_addressIf 26 = .ok (.ireturn, 1) := by decide +kernel
theorem dX8_possibleAddresses_0 : decode cX8_possibleAddresses 0 = .ok (.aload_n 0, 1) := by decide +kernel
theorem dX8_possibleAddresses_1 : decode cX8_possibleAddresses 1 = .ok (.iload_n 1, 1) := by decide +kernel
theorem dX8_possibleAddresses_2 : decode cX8_possibleAddresses 2 = .ok (.invokevirtual 161, 3) := by decide +kernel
theorem dX8_possibleAddresses_5 : decode cX8_possibleAddresses 5 = .ok (.aload_n 0, 1) := by decide +kernel
theorem dX8_possibleAddresses_6 : decode cX8_possibleAddresses 6 = .ok (.getfield 38, 3) := by decide +kernel
theorem dX8_possibleAddresses_9 : decode cX8_possibleAddresses 9 = .ok (.invokevirtual 236, 3) := by decide +kernel
theorem dX8_possibleAddresses_12 : decode cX8_possibleAddresses 12 = .ok (.aload_n 0, 1) := by decide +kernel
theorem dX8_possibleAddresses_13 : decode cX8_possibleAddresses 13 = .ok (.getfield 72, 3) := by decide +kernel
theorem dX8_possibleAddresses_16 : decode cX8_possibleAddresses 16 = .ok (.iload_n 1, 1) := by decide +kernel
theorem dX8_possibleAddresses_17 : decode cX8_possibleAddresses 17 = .ok (.invokevirtual 241, 3) := by decide +kernel
theorem dX8_possibleAddresses_20 : decode cX8_possibleAddresses 20 = .ok (.ireturn, 1) := by decide +kernel
theorem dX8_transferCount_0 : decode cX8_transferCount 0 = .ok (.aload_n 0, 1) := by decide +kernel
theorem dX8_transferCount_1 : decode cX8_transferCount 1 = .ok (.getfield 56, 3) := by decide +kernel
theorem dX8_transferCount_4 : decode cX8_transferCount 4 = .ok (.invokevirtual 244, 3) := by decide +kernel
theorem dX8_transferCount_7 : decode cX8_transferCount 7 = .ok (.ireturn, 1) := by decide +kernel
theorem dX8_formCount_0 : decode cX8_formCount 0 = .ok (.aload_n 0, 1) := by decide +kernel
theorem dX8_formCount_1 : decode cX8_formCount 1 = .ok (.iload_n 1, 1) := by decide +kernel
theorem dX8_formCount_2 : decode cX8_formCount 2 = .ok (.invokevirtual 208, 3) := by decide +kernel
theorem dX8_formCount_5 : decode cX8_formCount 5 = .ok (.aload_n 0, 1) := by decide +kernel
theorem dX8_formCount_6 : decode cX8_formCount 6 = .ok (.getfield 56, 3) := by decide +kernel
theorem dX8_formCount_9 : decode cX8_formCount 9 = .ok (.iload_n 1, 1) := by decide +kernel
theorem dX8_formCount_10 : decode cX8_formCount 10 = .ok (.invokevirtual 247, 3) := by decide +kernel
theorem dX8_formCount_13 : decode cX8_formCount 13 = .ok (.ireturn, 1) := by decide +kernel
theorem dX8_undefinedCount_0 : decode cX8_undefinedCount 0 = .ok (.aload_n 0, 1) := by decide +kernel
theorem dX8_undefinedCount_1 : decode cX8_undefinedCount 1 = .ok (.getfield 38, 3) := by decide +kernel
theorem dX8_undefinedCount_4 : decode cX8_undefinedCount 4 = .ok (.invokevirtual 236, 3) := by decide +kernel
theorem dX8_undefinedCount_7 : decode cX8_undefinedCount 7 = .ok (.aload_n 0, 1) := by decide +kernel
theorem dX8_undefinedCount_8 : decode cX8_undefinedCount 8 = .ok (.getfield 56, 3) := by decide +kernel
theorem dX8_undefinedCount_11 : decode cX8_undefinedCount 11 = .ok (.invokevirtual 250, 3) := by decide +kernel
theorem dX8_undefinedCount_14 : decode cX8_undefinedCount 14 = .ok (.ireturn, 1) := by decide +kernel
theorem dX8_displacement_0 : decode cX8_displacement 0 = .ok (.aload_n 0, 1) := by decide +kernel
theorem dX8_displacement_1 : decode cX8_displacement 1 = .ok (.iload_n 1, 1) := by decide +kernel
theorem dX8_displacement_2 : decode cX8_displacement 2 = .ok (.invokevirtual 253, 3) := by decide +kernel
theorem dX8_displacement_5 : decode cX8_displacement 5 = .ok (.aload_n 0, 1) := by decide +kernel
theorem dX8_displacement_6 : decode cX8_displacement 6 = .ok (.getfield 56, 3) := by decide +kernel
theorem dX8_displacement_9 : decode cX8_displacement 9 = .ok (.iload_n 1, 1) := by decide +kernel
theorem dX8_displacement_10 : decode cX8_displacement 10 = .ok (.invokevirtual 256, 3) := by decide +kernel
theorem dX8_displacement_13 : decode cX8_displacement 13 = .ok (.ireturn, 1) := by decide +kernel
theorem dX8_fits_0 : decode cX8_fits 0 = .ok (.aload_n 0, 1) := by decide +kernel
theorem dX8_fits_1 : decode cX8_fits 1 = .ok (.iload_n 1, 1) := by decide +kernel
theorem dX8_fits_2 : decode cX8_fits 2 = .ok (.invokevirtual 253, 3) := by decide +kernel
theorem dX8_fits_5 : decode cX8_fits 5 = .ok (.aload_n 0, 1) := by decide +kernel
theorem dX8_fits_6 : decode cX8_fits 6 = .ok (.getfield 56, 3) := by decide +kernel
theorem dX8_fits_9 : decode cX8_fits 9 = .ok (.iload_n 1, 1) := by decide +kernel
theorem dX8_fits_10 : decode cX8_fits 10 = .ok (.invokevirtual 259, 3) := by decide +kernel
theorem dX8_fits_13 : decode cX8_fits 13 = .ok (.ireturn, 1) := by decide +kernel
theorem dX8_misfits_0 : decode cX8_misfits 0 = .ok (.aload_n 0, 1) := by decide +kernel
theorem dX8_misfits_1 : decode cX8_misfits 1 = .ok (.invokevirtual 262, 3) := by decide +kernel
theorem dX8_misfits_4 : decode cX8_misfits 4 = .ok (.aload_n 0, 1) := by decide +kernel
theorem dX8_misfits_5 : decode cX8_misfits 5 = .ok (.getfield 47, 3) := by decide +kernel
theorem dX8_misfits_8 : decode cX8_misfits 8 = .ok (.invokevirtual 265, 3) := by decide +kernel
theorem dX8_misfits_11 : decode cX8_misfits 11 = .ok (.aload_n 0, 1) := by decide +kernel
theorem dX8_misfits_12 : decode cX8_misfits 12 = .ok (.getfield 56, 3) := by decide +kernel
theorem dX8_misfits_15 : decode cX8_misfits 15 = .ok (.invokevirtual 268, 3) := by decide +kernel
theorem dX8_misfits_18 : decode cX8_misfits 18 = .ok (.ireturn, 1) := by decide +kernel
theorem dX8_neededForm_0 : decode cX8_neededForm 0 = .ok (.aload_n 0, 1) := by decide +kernel
theorem dX8_neededForm_1 : decode cX8_neededForm 1 = .ok (.iload_n 1, 1) := by decide +kernel
theorem dX8_neededForm_2 : decode cX8_neededForm 2 = .ok (.invokevirtual 253, 3) := by decide +kernel
theorem dX8_neededForm_5 : decode cX8_neededForm 5 = .ok (.aload_n 0, 1) := by decide +kernel
theorem dX8_neededForm_6 : decode cX8_neededForm 6 = .ok (.getfield 56, 3) := by decide +kernel
theorem dX8_neededForm_9 : decode cX8_neededForm 9 = .ok (.iload_n 1, 1) := by decide +kernel
theorem dX8_neededForm_10 : decode cX8_neededForm 10 = .ok (.invokevirtual 256, 3) := by decide +kernel
theorem dX8_neededForm_13 : decode cX8_neededForm 13 = .ok (.invokestatic 271, 3) := by decide +kernel
theorem dX8_neededForm_16 : decode cX8_neededForm 16 = .ok (.ireturn, 1) := by decide +kernel
theorem dX8_relax_0 : decode cX8_relax 0 = .ok (.aload_n 0, 1) := by decide +kernel
theorem dX8_relax_1 : decode cX8_relax 1 = .ok (.invokevirtual 262, 3) := by decide +kernel
theorem dX8_relax_4 : decode cX8_relax 4 = .ok (.aload_n 0, 1) := by decide +kernel
theorem dX8_relax_5 : decode cX8_relax 5 = .ok (.getfield 22, 3) := by decide +kernel
theorem dX8_relax_8 : decode cX8_relax 8 = .ok (.aload_n 0, 1) := by decide +kernel
theorem dX8_relax_9 : decode cX8_relax 9 = .ok (.getfield 12, 3) := by decide +kernel
theorem dX8_relax_12 : decode cX8_relax 12 = .ok (.invokevirtual 149, 3) := by decide +kernel
theorem dX8_relax_15 : decode cX8_relax 15 = .ok (.aload_n 0, 1) := by decide +kernel
theorem dX8_relax_16 : decode cX8_relax 16 = .ok (.getfield 56, 3) := by decide +kernel
theorem dX8_relax_19 : decode cX8_relax 19 = .ok (.invokevirtual 274, 3) := by decide +kernel
theorem dX8_relax_22 : decode cX8_relax 22 = .ok (.ireturn, 1) := by decide +kernel
theorem dX8_shrink_0 : decode cX8_shrink 0 = .ok (.aload_n 0, 1) := by decide +kernel
theorem dX8_shrink_1 : decode cX8_shrink 1 = .ok (.invokevirtual 262, 3) := by decide +kernel
theorem dX8_shrink_4 : decode cX8_shrink 4 = .ok (.aload_n 0, 1) := by decide +kernel
theorem dX8_shrink_5 : decode cX8_shrink 5 = .ok (.getfield 47, 3) := by decide +kernel
theorem dX8_shrink_8 : decode cX8_shrink 8 = .ok (.invokevirtual 265, 3) := by decide +kernel
theorem dX8_shrink_11 : decode cX8_shrink 11 = .ok (.aload_n 0, 1) := by decide +kernel
theorem dX8_shrink_12 : decode cX8_shrink 12 = .ok (.getfield 56, 3) := by decide +kernel
theorem dX8_shrink_15 : decode cX8_shrink 15 = .ok (.invokevirtual 268, 3) := by decide +kernel
theorem dX8_shrink_18 : decode cX8_shrink 18 = .ok (.ifCond .le 14, 3) := by decide +kernel
theorem dX8_shrink_21 : decode cX8_shrink 21 = .ok (.new 105, 3) := by decide +kernel
theorem dX8_shrink_24 : decode cX8_shrink 24 = .ok (.dup, 1) := by decide +kernel
theorem dX8_shrink_25 : decode cX8_shrink 25 = .ok (.ldc_w 277, 3) := by decide +kernel
theorem dX8_shrink_28 : decode cX8_shrink 28 = .ok (.invokespecial 109, 3) := by decide +kernel
theorem dX8_shrink_31 : decode cX8_shrink 31 = .ok (.athrow, 1) := by decide +kernel
theorem dX8_shrink_32 : decode cX8_shrink 32 = .ok (.aload_n 0, 1) := by decide +kernel
theorem dX8_shrink_33 : decode cX8_shrink 33 = .ok (.getfield 22, 3) := by decide +kernel
theorem dX8_shrink_36 : decode cX8_shrink 36 = .ok (.aload_n 0, 1) := by decide +kernel
theorem dX8_shrink_37 : decode cX8_shrink 37 = .ok (.getfield 12, 3) := by decide +kernel
theorem dX8_shrink_40 : decode cX8_shrink 40 = .ok (.invokevirtual 149, 3) := by decide +kernel
theorem dX8_shrink_43 : decode cX8_shrink 43 = .ok (.aload_n 0, 1) := by decide +kernel
theorem dX8_shrink_44 : decode cX8_shrink 44 = .ok (.getfield 56, 3) := by decide +kernel
theorem dX8_shrink_47 : decode cX8_shrink 47 = .ok (.invokevirtual 279, 3) := by decide +kernel
theorem dX8_shrink_50 : decode cX8_shrink 50 = .ok (.ireturn, 1) := by decide +kernel
theorem dX8_leastSize_0 : decode cX8_leastSize 0 = .ok (.aload_n 0, 1) := by decide +kernel
theorem dX8_leastSize_1 : decode cX8_leastSize 1 = .ok (.invokevirtual 282, 3) := by decide +kernel
theorem dX8_leastSize_4 : decode cX8_leastSize 4 = .ok (.aload_n 0, 1) := by decide +kernel
theorem dX8_leastSize_5 : decode cX8_leastSize 5 = .ok (.getfield 63, 3) := by decide +kernel
theorem dX8_leastSize_8 : decode cX8_leastSize 8 = .ok (.invokevirtual 285, 3) := by decide +kernel
theorem dX8_leastSize_11 : decode cX8_leastSize 11 = .ok (.aload_n 0, 1) := by decide +kernel
theorem dX8_leastSize_12 : decode cX8_leastSize 12 = .ok (.getfield 63, 3) := by decide +kernel
theorem dX8_leastSize_15 : decode cX8_leastSize 15 = .ok (.invokevirtual 288, 3) := by decide +kernel
theorem dX8_leastSize_18 : decode cX8_leastSize 18 = .ok (.ireturn, 1) := by decide +kernel
theorem dX8_optimize_0 : decode cX8_optimize 0 = .ok (.aload_n 0, 1) := by decide +kernel
theorem dX8_optimize_1 : decode cX8_optimize 1 = .ok (.invokevirtual 282, 3) := by decide +kernel
theorem dX8_optimize_4 : decode cX8_optimize 4 = .ok (.aload_n 0, 1) := by decide +kernel
theorem dX8_optimize_5 : decode cX8_optimize 5 = .ok (.getfield 22, 3) := by decide +kernel
theorem dX8_optimize_8 : decode cX8_optimize 8 = .ok (.aload_n 0, 1) := by decide +kernel
theorem dX8_optimize_9 : decode cX8_optimize 9 = .ok (.getfield 12, 3) := by decide +kernel
theorem dX8_optimize_12 : decode cX8_optimize 12 = .ok (.invokevirtual 149, 3) := by decide +kernel
theorem dX8_optimize_15 : decode cX8_optimize 15 = .ok (.aload_n 0, 1) := by decide +kernel
theorem dX8_optimize_16 : decode cX8_optimize 16 = .ok (.getfield 63, 3) := by decide +kernel
theorem dX8_optimize_19 : decode cX8_optimize 19 = .ok (.invokevirtual 285, 3) := by decide +kernel
theorem dX8_optimize_22 : decode cX8_optimize 22 = .ok (.aload_n 0, 1) := by decide +kernel
theorem dX8_optimize_23 : decode cX8_optimize 23 = .ok (.getfield 63, 3) := by decide +kernel
theorem dX8_optimize_26 : decode cX8_optimize 26 = .ok (.invokevirtual 291, 3) := by decide +kernel
theorem dX8_optimize_29 : decode cX8_optimize 29 = .ok (.aload_n 0, 1) := by decide +kernel
theorem dX8_optimize_30 : decode cX8_optimize 30 = .ok (.getfield 63, 3) := by decide +kernel
theorem dX8_optimize_33 : decode cX8_optimize 33 = .ok (.invokevirtual 288, 3) := by decide +kernel
theorem dX8_optimize_36 : decode cX8_optimize 36 = .ok (.ireturn, 1) := by decide +kernel
theorem dX8_consistentChoices_0 : decode cX8_consistentChoices 0 = .ok (.aload_n 0, 1) := by decide +kernel
theorem dX8_consistentChoices_1 : decode cX8_consistentChoices 1 = .ok (.invokevirtual 282, 3) := by decide +kernel
theorem dX8_consistentChoices_4 : decode cX8_consistentChoices 4 = .ok (.aload_n 0, 1) := by decide +kernel
theorem dX8_consistentChoices_5 : decode cX8_consistentChoices 5 = .ok (.getfield 63, 3) := by decide +kernel
theorem dX8_consistentChoices_8 : decode cX8_consistentChoices 8 = .ok (.invokevirtual 285, 3) := by decide +kernel
theorem dX8_consistentChoices_11 : decode cX8_consistentChoices 11 = .ok (.aload_n 0, 1) := by decide +kernel
theorem dX8_consistentChoices_12 : decode cX8_consistentChoices 12 = .ok (.getfield 63, 3) := by decide +kernel
theorem dX8_consistentChoices_15 : decode cX8_consistentChoices 15 = .ok (.invokevirtual 294, 3) := by decide +kernel
theorem dX8_consistentChoices_18 : decode cX8_consistentChoices 18 = .ok (.ireturn, 1) := by decide +kernel
theorem dX8_averageForm_0 : decode cX8_averageForm 0 = .ok (.aload_n 0, 1) := by decide +kernel
theorem dX8_averageForm_1 : decode cX8_averageForm 1 = .ok (.getfield 56, 3) := by decide +kernel
theorem dX8_averageForm_4 : decode cX8_averageForm 4 = .ok (.invokevirtual 244, 3) := by decide +kernel
theorem dX8_averageForm_7 : decode cX8_averageForm 7 = .ok (.istore_n 1, 1) := by decide +kernel
theorem dX8_averageForm_8 : decode cX8_averageForm 8 = .ok (.iload_n 1, 1) := by decide +kernel
theorem dX8_averageForm_9 : decode cX8_averageForm 9 = .ok (.ifCond .ne 14, 3) := by decide +kernel
theorem dX8_averageForm_12 : decode cX8_averageForm 12 = .ok (.new 297, 3) := by decide +kernel
theorem dX8_averageForm_15 : decode cX8_averageForm 15 = .ok (.dup, 1) := by decide +kernel
theorem dX8_averageForm_16 : decode cX8_averageForm 16 = .ok (.ldc_w 299, 3) := by decide +kernel
theorem dX8_averageForm_19 : decode cX8_averageForm 19 = .ok (.invokespecial 301, 3) := by decide +kernel
theorem dX8_averageForm_22 : decode cX8_averageForm 22 = .ok (.athrow, 1) := by decide +kernel
theorem dX8_averageForm_23 : decode cX8_averageForm 23 = .ok (.aload_n 0, 1) := by decide +kernel
theorem dX8_averageForm_24 : decode cX8_averageForm 24 = .ok (.getfield 56, 3) := by decide +kernel
theorem dX8_averageForm_27 : decode cX8_averageForm 27 = .ok (.invokevirtual 302, 3) := by decide +kernel
theorem dX8_averageForm_30 : decode cX8_averageForm 30 = .ok (.i2d, 1) := by decide +kernel
theorem dX8_averageForm_31 : decode cX8_averageForm 31 = .ok (.iload_n 1, 1) := by decide +kernel
theorem dX8_averageForm_32 : decode cX8_averageForm 32 = .ok (.i2d, 1) := by decide +kernel
theorem dX8_averageForm_33 : decode cX8_averageForm 33 = .ok (.ddiv, 1) := by decide +kernel
theorem dX8_averageForm_34 : decode cX8_averageForm 34 = .ok (.dreturn, 1) := by decide +kernel
theorem dX8_poolCount_0 : decode cX8_poolCount 0 = .ok (.aload_n 0, 1) := by decide +kernel
theorem dX8_poolCount_1 : decode cX8_poolCount 1 = .ok (.getfield 38, 3) := by decide +kernel
theorem dX8_poolCount_4 : decode cX8_poolCount 4 = .ok (.invokevirtual 236, 3) := by decide +kernel
theorem dX8_poolCount_7 : decode cX8_poolCount 7 = .ok (.aload_n 0, 1) := by decide +kernel
theorem dX8_poolCount_8 : decode cX8_poolCount 8 = .ok (.getfield 38, 3) := by decide +kernel
theorem dX8_poolCount_11 : decode cX8_poolCount 11 = .ok (.invokevirtual 305, 3) := by decide +kernel
theorem dX8_poolCount_14 : decode cX8_poolCount 14 = .ok (.ireturn, 1) := by decide +kernel
theorem dX8_literalCount_0 : decode cX8_literalCount 0 = .ok (.aload_n 0, 1) := by decide +kernel
theorem dX8_literalCount_1 : decode cX8_literalCount 1 = .ok (.iload_n 1, 1) := by decide +kernel
theorem dX8_literalCount_2 : decode cX8_literalCount 2 = .ok (.invokevirtual 308, 3) := by decide +kernel
theorem dX8_literalCount_5 : decode cX8_literalCount 5 = .ok (.aload_n 0, 1) := by decide +kernel
theorem dX8_literalCount_6 : decode cX8_literalCount 6 = .ok (.getfield 38, 3) := by decide +kernel
theorem dX8_literalCount_9 : decode cX8_literalCount 9 = .ok (.iload_n 1, 1) := by decide +kernel
theorem dX8_literalCount_10 : decode cX8_literalCount 10 = .ok (.invokevirtual 311, 3) := by decide +kernel
theorem dX8_literalCount_13 : decode cX8_literalCount 13 = .ok (.ireturn, 1) := by decide +kernel
theorem dX8_literal_0 : decode cX8_literal 0 = .ok (.aload_n 0, 1) := by decide +kernel
theorem dX8_literal_1 : decode cX8_literal 1 = .ok (.iload_n 1, 1) := by decide +kernel
theorem dX8_literal_2 : decode cX8_literal 2 = .ok (.iload_n 2, 1) := by decide +kernel
theorem dX8_literal_3 : decode cX8_literal 3 = .ok (.invokevirtual 314, 3) := by decide +kernel
theorem dX8_literal_6 : decode cX8_literal 6 = .ok (.aload_n 0, 1) := by decide +kernel
theorem dX8_literal_7 : decode cX8_literal 7 = .ok (.getfield 38, 3) := by decide +kernel
theorem dX8_literal_10 : decode cX8_literal 10 = .ok (.iload_n 1, 1) := by decide +kernel
theorem dX8_literal_11 : decode cX8_literal 11 = .ok (.iload_n 2, 1) := by decide +kernel
theorem dX8_literal_12 : decode cX8_literal 12 = .ok (.invokevirtual 317, 3) := by decide +kernel
theorem dX8_literal_15 : decode cX8_literal 15 = .ok (.ireturn, 1) := by decide +kernel
theorem dX8_literalAddress_0 : decode cX8_literalAddress 0 = .ok (.aload_n 0, 1) := by decide +kernel
theorem dX8_literalAddress_1 : decode cX8_literalAddress 1 = .ok (.iload_n 1, 1) := by decide +kernel
theorem dX8_literalAddress_2 : decode cX8_literalAddress 2 = .ok (.iload_n 2, 1) := by decide +kernel
end
section
theorem dX8_literalAddress_3 : decode cX8_literalAddress 3 = .ok (.invokevirtual 314, 3) := by decide +kernel
theorem dX8_literalAddress_6 : decode cX8_literalAddress 6 = .ok (.aload_n 0, 1) := by decide +kernel
theorem dX8_literalAddress_7 : decode cX8_literalAddress 7 = .ok (.invokevirtual 178, 3) := by decide +kernel
theorem dX8_literalAddress_10 : decode cX8_literalAddress 10 = .ok (.iload_n 1, 1) := by decide +kernel
theorem dX8_literalAddress_11 : decode cX8_literalAddress 11 = .ok (.iload_n 2, 1) := by decide +kernel
theorem dX8_literalAddress_12 : decode cX8_literalAddress 12 = .ok (.iconst 0, 1) := by decide +kernel
theorem dX8_literalAddress_13 : decode cX8_literalAddress 13 = .ok (.invokevirtual 320, 3) := by decide +kernel
theorem dX8_literalAddress_16 : decode cX8_literalAddress 16 = .ok (.ireturn, 1) := by decide +kernel
theorem dX8_poolOf_0 : decode cX8_poolOf 0 = .ok (.aload_n 0, 1) := by decide +kernel
theorem dX8_poolOf_1 : decode cX8_poolOf 1 = .ok (.iload_n 1, 1) := by decide +kernel
theorem dX8_poolOf_2 : decode cX8_poolOf 2 = .ok (.invokevirtual 324, 3) := by decide +kernel
theorem dX8_poolOf_5 : decode cX8_poolOf 5 = .ok (.aload_n 0, 1) := by decide +kernel
theorem dX8_poolOf_6 : decode cX8_poolOf 6 = .ok (.getfield 38, 3) := by decide +kernel
theorem dX8_poolOf_9 : decode cX8_poolOf 9 = .ok (.invokevirtual 236, 3) := by decide +kernel
theorem dX8_poolOf_12 : decode cX8_poolOf 12 = .ok (.aload_n 0, 1) := by decide +kernel
theorem dX8_poolOf_13 : decode cX8_poolOf 13 = .ok (.getfield 38, 3) := by decide +kernel
theorem dX8_poolOf_16 : decode cX8_poolOf 16 = .ok (.iload_n 1, 1) := by decide +kernel
theorem dX8_poolOf_17 : decode cX8_poolOf 17 = .ok (.invokevirtual 327, 3) := by decide +kernel
theorem dX8_poolOf_20 : decode cX8_poolOf 20 = .ok (.ireturn, 1) := by decide +kernel
theorem dX8_distance_0 : decode cX8_distance 0 = .ok (.aload_n 0, 1) := by decide +kernel
theorem dX8_distance_1 : decode cX8_distance 1 = .ok (.iload_n 1, 1) := by decide +kernel
theorem dX8_distance_2 : decode cX8_distance 2 = .ok (.invokevirtual 324, 3) := by decide +kernel
theorem dX8_distance_5 : decode cX8_distance 5 = .ok (.aload_n 0, 1) := by decide +kernel
theorem dX8_distance_6 : decode cX8_distance 6 = .ok (.invokevirtual 178, 3) := by decide +kernel
theorem dX8_distance_9 : decode cX8_distance 9 = .ok (.iload_n 1, 1) := by decide +kernel
theorem dX8_distance_10 : decode cX8_distance 10 = .ok (.iconst 0, 1) := by decide +kernel
theorem dX8_distance_11 : decode cX8_distance 11 = .ok (.invokevirtual 330, 3) := by decide +kernel
theorem dX8_distance_14 : decode cX8_distance 14 = .ok (.ireturn, 1) := by decide +kernel
theorem dX8_loadsOutOfReach_0 : decode cX8_loadsOutOfReach 0 = .ok (.aload_n 0, 1) := by decide +kernel
theorem dX8_loadsOutOfReach_1 : decode cX8_loadsOutOfReach 1 = .ok (.invokevirtual 178, 3) := by decide +kernel
theorem dX8_loadsOutOfReach_4 : decode cX8_loadsOutOfReach 4 = .ok (.invokevirtual 333, 3) := by decide +kernel
theorem dX8_loadsOutOfReach_7 : decode cX8_loadsOutOfReach 7 = .ok (.ireturn, 1) := by decide +kernel
theorem dX8_slack_0 : decode cX8_slack 0 = .ok (.aload_n 0, 1) := by decide +kernel
theorem dX8_slack_1 : decode cX8_slack 1 = .ok (.iload_n 1, 1) := by decide +kernel
theorem dX8_slack_2 : decode cX8_slack 2 = .ok (.invokevirtual 324, 3) := by decide +kernel
theorem dX8_slack_5 : decode cX8_slack 5 = .ok (.aload_n 0, 1) := by decide +kernel
theorem dX8_slack_6 : decode cX8_slack 6 = .ok (.invokevirtual 178, 3) := by decide +kernel
theorem dX8_slack_9 : decode cX8_slack 9 = .ok (.iload_n 1, 1) := by decide +kernel
theorem dX8_slack_10 : decode cX8_slack 10 = .ok (.invokevirtual 336, 3) := by decide +kernel
theorem dX8_slack_13 : decode cX8_slack 13 = .ok (.ireturn, 1) := by decide +kernel
theorem dX8_undo_0 : decode cX8_undo 0 = .ok (.aload_n 0, 1) := by decide +kernel
theorem dX8_undo_1 : decode cX8_undo 1 = .ok (.getfield 22, 3) := by decide +kernel
theorem dX8_undo_4 : decode cX8_undo 4 = .ok (.invokevirtual 339, 3) := by decide +kernel
theorem dX8_undo_7 : decode cX8_undo 7 = .ok (.ifCond .eq 14, 3) := by decide +kernel
theorem dX8_undo_10 : decode cX8_undo 10 = .ok (.new 156, 3) := by decide +kernel
theorem dX8_undo_13 : decode cX8_undo 13 = .ok (.dup, 1) := by decide +kernel
theorem dX8_undo_14 : decode cX8_undo 14 = .ok (.ldc_w 342, 3) := by decide +kernel
theorem dX8_undo_17 : decode cX8_undo 17 = .ok (.invokespecial 160, 3) := by decide +kernel
theorem dX8_undo_20 : decode cX8_undo 20 = .ok (.athrow, 1) := by decide +kernel
theorem dX8_undo_21 : decode cX8_undo 21 = .ok (.aload_n 0, 1) := by decide +kernel
theorem dX8_undo_22 : decode cX8_undo 22 = .ok (.getfield 22, 3) := by decide +kernel
theorem dX8_undo_25 : decode cX8_undo 25 = .ok (.aload_n 0, 1) := by decide +kernel
theorem dX8_undo_26 : decode cX8_undo 26 = .ok (.getfield 12, 3) := by decide +kernel
theorem dX8_undo_29 : decode cX8_undo 29 = .ok (.invokevirtual 344, 3) := by decide +kernel
theorem dX8_undo_32 : decode cX8_undo 32 = .ok (.ireturn, 1) := by decide +kernel
theorem dX8_save_0 : decode cX8_save 0 = .ok (.aload_n 0, 1) := by decide +kernel
theorem dX8_save_1 : decode cX8_save 1 = .ok (.getfield 16, 3) := by decide +kernel
theorem dX8_save_4 : decode cX8_save 4 = .ok (.aload_n 0, 1) := by decide +kernel
theorem dX8_save_5 : decode cX8_save 5 = .ok (.getfield 12, 3) := by decide +kernel
theorem dX8_save_8 : decode cX8_save 8 = .ok (.invokevirtual 348, 3) := by decide +kernel
theorem dX8_save_11 : decode cX8_save 11 = .ok (.aload_n 0, 1) := by decide +kernel
theorem dX8_save_12 : decode cX8_save 12 = .ok (.iconst 1, 1) := by decide +kernel
theorem dX8_save_13 : decode cX8_save 13 = .ok (.putfield 76, 3) := by decide +kernel
theorem dX8_save_16 : decode cX8_save 16 = .ok (.aload_n 0, 1) := by decide +kernel
theorem dX8_save_17 : decode cX8_save 17 = .ok (.getfield 12, 3) := by decide +kernel
theorem dX8_save_20 : decode cX8_save 20 = .ok (.invokevirtual 84, 3) := by decide +kernel
theorem dX8_save_23 : decode cX8_save 23 = .ok (.ireturn, 1) := by decide +kernel
theorem dX8_restore_0 : decode cX8_restore 0 = .ok (.aload_n 0, 1) := by decide +kernel
theorem dX8_restore_1 : decode cX8_restore 1 = .ok (.getfield 76, 3) := by decide +kernel
theorem dX8_restore_4 : decode cX8_restore 4 = .ok (.ifCond .ne 14, 3) := by decide +kernel
theorem dX8_restore_7 : decode cX8_restore 7 = .ok (.new 105, 3) := by decide +kernel
theorem dX8_restore_10 : decode cX8_restore 10 = .ok (.dup, 1) := by decide +kernel
theorem dX8_restore_11 : decode cX8_restore 11 = .ok (.ldc_w 351, 3) := by decide +kernel
theorem dX8_restore_14 : decode cX8_restore 14 = .ok (.invokespecial 109, 3) := by decide +kernel
theorem dX8_restore_17 : decode cX8_restore 17 = .ok (.athrow, 1) := by decide +kernel
theorem dX8_restore_18 : decode cX8_restore 18 = .ok (.aload_n 0, 1) := by decide +kernel
theorem dX8_restore_19 : decode cX8_restore 19 = .ok (.getfield 12, 3) := by decide +kernel
theorem dX8_restore_22 : decode cX8_restore 22 = .ok (.aload_n 0, 1) := by decide +kernel
theorem dX8_restore_23 : decode cX8_restore 23 = .ok (.getfield 16, 3) := by decide +kernel
theorem dX8_restore_26 : decode cX8_restore 26 = .ok (.invokevirtual 348, 3) := by decide +kernel
theorem dX8_restore_29 : decode cX8_restore 29 = .ok (.aload_n 0, 1) := by decide +kernel
theorem dX8_restore_30 : decode cX8_restore 30 = .ok (.getfield 22, 3) := by decide +kernel
theorem dX8_restore_33 : decode cX8_restore 33 = .ok (.invokevirtual 91, 3) := by decide +kernel
theorem dX8_restore_36 : decode cX8_restore 36 = .ok (.aload_n 0, 1) := by decide +kernel
theorem dX8_restore_37 : decode cX8_restore 37 = .ok (.getfield 12, 3) := by decide +kernel
theorem dX8_restore_40 : decode cX8_restore 40 = .ok (.invokevirtual 84, 3) := by decide +kernel
theorem dX8_restore_43 : decode cX8_restore 43 = .ok (.ireturn, 1) := by decide +kernel
theorem dX8_freshLayout_0 : decode cX8_freshLayout 0 = .ok (.aload_n 0, 1) := by decide +kernel
theorem dX8_freshLayout_1 : decode cX8_freshLayout 1 = .ok (.getfield 38, 3) := by decide +kernel
theorem dX8_freshLayout_4 : decode cX8_freshLayout 4 = .ok (.invokevirtual 236, 3) := by decide +kernel
theorem dX8_freshLayout_7 : decode cX8_freshLayout 7 = .ok (.aload_n 0, 1) := by decide +kernel
theorem dX8_freshLayout_8 : decode cX8_freshLayout 8 = .ok (.getfield 47, 3) := by decide +kernel
theorem dX8_freshLayout_11 : decode cX8_freshLayout 11 = .ok (.invokevirtual 265, 3) := by decide +kernel
theorem dX8_freshLayout_14 : decode cX8_freshLayout 14 = .ok (.aload_n 0, 1) := by decide +kernel
theorem dX8_freshLayout_15 : decode cX8_freshLayout 15 = .ok (.getfield 47, 3) := by decide +kernel
theorem dX8_freshLayout_18 : decode cX8_freshLayout 18 = .ok (.areturn, 1) := by decide +kernel
theorem dX8_requireItem_0 : decode cX8_requireItem 0 = .ok (.aload_n 0, 1) := by decide +kernel
theorem dX8_requireItem_1 : decode cX8_requireItem 1 = .ok (.getfield 12, 3) := by decide +kernel
theorem dX8_requireItem_4 : decode cX8_requireItem 4 = .ok (.iload_n 1, 1) := by decide +kernel
theorem dX8_requireItem_5 : decode cX8_requireItem 5 = .ok (.invokevirtual 353, 3) := by decide +kernel
theorem dX8_requireItem_8 : decode cX8_requireItem 8 = .ok (.ifCond .ne 14, 3) := by decide +kernel
theorem dX8_requireItem_11 : decode cX8_requireItem 11 = .ok (.new 117, 3) := by decide +kernel
theorem dX8_requireItem_14 : decode cX8_requireItem 14 = .ok (.dup, 1) := by decide +kernel
theorem dX8_requireItem_15 : decode cX8_requireItem 15 = .ok (.ldc_w 356, 3) := by decide +kernel
theorem dX8_requireItem_18 : decode cX8_requireItem 18 = .ok (.invokespecial 121, 3) := by decide +kernel
theorem dX8_requireItem_21 : decode cX8_requireItem 21 = .ok (.athrow, 1) := by decide +kernel
theorem dX8_requireItem_22 : decode cX8_requireItem 22 = .ok (.return_, 1) := by decide +kernel
theorem dX8_requireTransfer_0 : decode cX8_requireTransfer 0 = .ok (.aload_n 0, 1) := by decide +kernel
theorem dX8_requireTransfer_1 : decode cX8_requireTransfer 1 = .ok (.getfield 12, 3) := by decide +kernel
theorem dX8_requireTransfer_4 : decode cX8_requireTransfer 4 = .ok (.iload_n 1, 1) := by decide +kernel
theorem dX8_requireTransfer_5 : decode cX8_requireTransfer 5 = .ok (.invokevirtual 358, 3) := by decide +kernel
theorem dX8_requireTransfer_8 : decode cX8_requireTransfer 8 = .ok (.ifCond .ne 14, 3) := by decide +kernel
theorem dX8_requireTransfer_11 : decode cX8_requireTransfer 11 = .ok (.new 94, 3) := by decide +kernel
theorem dX8_requireTransfer_14 : decode cX8_requireTransfer 14 = .ok (.dup, 1) := by decide +kernel
theorem dX8_requireTransfer_15 : decode cX8_requireTransfer 15 = .ok (.ldc_w 361, 3) := by decide +kernel
theorem dX8_requireTransfer_18 : decode cX8_requireTransfer 18 = .ok (.invokespecial 98, 3) := by decide +kernel
theorem dX8_requireTransfer_21 : decode cX8_requireTransfer 21 = .ok (.athrow, 1) := by decide +kernel
theorem dX8_requireTransfer_22 : decode cX8_requireTransfer 22 = .ok (.return_, 1) := by decide +kernel
theorem dX8_requireForm_0 : decode cX8_requireForm 0 = .ok (.iload_n 1, 1) := by decide +kernel
theorem dX8_requireForm_1 : decode cX8_requireForm 1 = .ok (.ifCond .lt 8, 3) := by decide +kernel
theorem dX8_requireForm_4 : decode cX8_requireForm 4 = .ok (.iload_n 1, 1) := by decide +kernel
theorem dX8_requireForm_5 : decode cX8_requireForm 5 = .ok (.iconst 2, 1) := by decide +kernel
theorem dX8_requireForm_6 : decode cX8_requireForm 6 = .ok (.if_icmp .le 14, 3) := by decide +kernel
theorem dX8_requireForm_9 : decode cX8_requireForm 9 = .ok (.new 94, 3) := by decide +kernel
theorem dX8_requireForm_12 : decode cX8_requireForm 12 = .ok (.dup, 1) := by decide +kernel
theorem dX8_requireForm_13 : decode cX8_requireForm 13 = .ok (.ldc_w 363, 3) := by decide +kernel
theorem dX8_requireForm_16 : decode cX8_requireForm 16 = .ok (.invokespecial 98, 3) := by decide +kernel
theorem dX8_requireForm_19 : decode cX8_requireForm 19 = .ok (.athrow, 1) := by decide +kernel
theorem dX8_requireForm_20 : decode cX8_requireForm 20 = .ok (.return_, 1) := by decide +kernel
theorem dX8_requireLoad_0 : decode cX8_requireLoad 0 = .ok (.aload_n 0, 1) := by decide +kernel
theorem dX8_requireLoad_1 : decode cX8_requireLoad 1 = .ok (.iload_n 1, 1) := by decide +kernel
theorem dX8_requireLoad_2 : decode cX8_requireLoad 2 = .ok (.invokevirtual 161, 3) := by decide +kernel
theorem dX8_requireLoad_5 : decode cX8_requireLoad 5 = .ok (.aload_n 0, 1) := by decide +kernel
theorem dX8_requireLoad_6 : decode cX8_requireLoad 6 = .ok (.getfield 12, 3) := by decide +kernel
theorem dX8_requireLoad_9 : decode cX8_requireLoad 9 = .ok (.iload_n 1, 1) := by decide +kernel
theorem dX8_requireLoad_10 : decode cX8_requireLoad 10 = .ok (.invokevirtual 168, 3) := by decide +kernel
theorem dX8_requireLoad_13 : decode cX8_requireLoad 13 = .ok (.bipush 6, 2) := by decide +kernel
theorem dX8_requireLoad_15 : decode cX8_requireLoad 15 = .ok (.if_icmp .eq 14, 3) := by decide +kernel
theorem dX8_requireLoad_18 : decode cX8_requireLoad 18 = .ok (.new 94, 3) := by decide +kernel
theorem dX8_requireLoad_21 : decode cX8_requireLoad 21 = .ok (.dup, 1) := by decide +kernel
theorem dX8_requireLoad_22 : decode cX8_requireLoad 22 = .ok (.ldc_w 365, 3) := by decide +kernel
theorem dX8_requireLoad_25 : decode cX8_requireLoad 25 = .ok (.invokespecial 98, 3) := by decide +kernel
theorem dX8_requireLoad_28 : decode cX8_requireLoad 28 = .ok (.athrow, 1) := by decide +kernel
theorem dX8_requireLoad_29 : decode cX8_requireLoad 29 = .ok (.return_, 1) := by decide +kernel
theorem dX8_requireTarget_0 : decode cX8_requireTarget 0 = .ok (.aload_n 0, 1) := by decide +kernel
theorem dX8_requireTarget_1 : decode cX8_requireTarget 1 = .ok (.iload_n 1, 1) := by decide +kernel
theorem dX8_requireTarget_2 : decode cX8_requireTarget 2 = .ok (.invokevirtual 161, 3) := by decide +kernel
theorem dX8_requireTarget_5 : decode cX8_requireTarget 5 = .ok (.aload_n 0, 1) := by decide +kernel
theorem dX8_requireTarget_6 : decode cX8_requireTarget 6 = .ok (.iload_n 1, 1) := by decide +kernel
theorem dX8_requireTarget_7 : decode cX8_requireTarget 7 = .ok (.invokevirtual 205, 3) := by decide +kernel
theorem dX8_requireTarget_10 : decode cX8_requireTarget 10 = .ok (.aload_n 0, 1) := by decide +kernel
theorem dX8_requireTarget_11 : decode cX8_requireTarget 11 = .ok (.invokevirtual 178, 3) := by decide +kernel
theorem dX8_requireTarget_14 : decode cX8_requireTarget 14 = .ok (.pop, 1) := by decide +kernel
theorem dX8_requireTarget_15 : decode cX8_requireTarget 15 = .ok (.aload_n 0, 1) := by decide +kernel
theorem dX8_requireTarget_16 : decode cX8_requireTarget 16 = .ok (.getfield 56, 3) := by decide +kernel
theorem dX8_requireTarget_19 : decode cX8_requireTarget 19 = .ok (.iload_n 1, 1) := by decide +kernel
theorem dX8_requireTarget_20 : decode cX8_requireTarget 20 = .ok (.invokevirtual 367, 3) := by decide +kernel
theorem dX8_requireTarget_23 : decode cX8_requireTarget 23 = .ok (.ifCond .ne 13, 3) := by decide +kernel
theorem dX8_requireTarget_26 : decode cX8_requireTarget 26 = .ok (.new 156, 3) := by decide +kernel
theorem dX8_requireTarget_29 : decode cX8_requireTarget 29 = .ok (.dup, 1) := by decide +kernel
theorem dX8_requireTarget_30 : decode cX8_requireTarget 30 = .ok (.ldc 226, 2) := by decide +kernel
theorem dX8_requireTarget_32 : decode cX8_requireTarget 32 = .ok (.invokespecial 160, 3) := by decide +kernel
theorem dX8_requireTarget_35 : decode cX8_requireTarget 35 = .ok (.athrow, 1) := by decide +kernel
theorem dX8_requireTarget_36 : decode cX8_requireTarget 36 = .ok (.return_, 1) := by decide +kernel
theorem dX8_requireAllDefined_0 : decode cX8_requireAllDefined 0 = .ok (.aload_n 0, 1) := by decide +kernel
theorem dX8_requireAllDefined_1 : decode cX8_requireAllDefined 1 = .ok (.getfield 38, 3) := by decide +kernel
theorem dX8_requireAllDefined_4 : decode cX8_requireAllDefined 4 = .ok (.invokevirtual 236, 3) := by decide +kernel
theorem dX8_requireAllDefined_7 : decode cX8_requireAllDefined 7 = .ok (.aload_n 0, 1) := by decide +kernel
theorem dX8_requireAllDefined_8 : decode cX8_requireAllDefined 8 = .ok (.getfield 56, 3) := by decide +kernel
theorem dX8_requireAllDefined_11 : decode cX8_requireAllDefined 11 = .ok (.invokevirtual 250, 3) := by decide +kernel
theorem dX8_requireAllDefined_14 : decode cX8_requireAllDefined 14 = .ok (.ifCond .le 14, 3) := by decide +kernel
theorem dX8_requireAllDefined_17 : decode cX8_requireAllDefined 17 = .ok (.new 105, 3) := by decide +kernel
theorem dX8_requireAllDefined_20 : decode cX8_requireAllDefined 20 = .ok (.dup, 1) := by decide +kernel
theorem dX8_requireAllDefined_21 : decode cX8_requireAllDefined 21 = .ok (.ldc_w 370, 3) := by decide +kernel
theorem dX8_requireAllDefined_24 : decode cX8_requireAllDefined 24 = .ok (.invokespecial 109, 3) := by decide +kernel
theorem dX8_requireAllDefined_27 : decode cX8_requireAllDefined 27 = .ok (.athrow, 1) := by decide +kernel
theorem dX8_requireAllDefined_28 : decode cX8_requireAllDefined 28 = .ok (.return_, 1) := by decide +kernel
theorem dX8_requireSearchable_0 : decode cX8_requireSearchable 0 = .ok (.aload_n 0, 1) := by decide +kernel
theorem dX8_requireSearchable_1 : decode cX8_requireSearchable 1 = .ok (.invokevirtual 262, 3) := by decide +kernel
theorem dX8_requireSearchable_4 : decode cX8_requireSearchable 4 = .ok (.aload_n 0, 1) := by decide +kernel
theorem dX8_requireSearchable_5 : decode cX8_requireSearchable 5 = .ok (.getfield 56, 3) := by decide +kernel
theorem dX8_requireSearchable_8 : decode cX8_requireSearchable 8 = .ok (.invokevirtual 244, 3) := by decide +kernel
theorem dX8_requireSearchable_11 : decode cX8_requireSearchable 11 = .ok (.bipush 8, 2) := by decide +kernel
theorem dX8_requireSearchable_13 : decode cX8_requireSearchable 13 = .ok (.if_icmp .le 14, 3) := by decide +kernel
theorem dX8_requireSearchable_16 : decode cX8_requireSearchable 16 = .ok (.new 372, 3) := by decide +kernel
theorem dX8_requireSearchable_19 : decode cX8_requireSearchable 19 = .ok (.dup, 1) := by decide +kernel
theorem dX8_requireSearchable_20 : decode cX8_requireSearchable 20 = .ok (.ldc_w 374, 3) := by decide +kernel
theorem dX8_requireSearchable_23 : decode cX8_requireSearchable 23 = .ok (.invokespecial 376, 3) := by decide +kernel
theorem dX8_requireSearchable_26 : decode cX8_requireSearchable 26 = .ok (.athrow, 1) := by decide +kernel
theorem dX8_requireSearchable_27 : decode cX8_requireSearchable 27 = .ok (.return_, 1) := by decide +kernel
theorem dX8_requirePool_0 : decode cX8_requirePool 0 = .ok (.aload_n 0, 1) := by decide +kernel
theorem dX8_requirePool_1 : decode cX8_requirePool 1 = .ok (.getfield 38, 3) := by decide +kernel
theorem dX8_requirePool_4 : decode cX8_requirePool 4 = .ok (.invokevirtual 236, 3) := by decide +kernel
theorem dX8_requirePool_7 : decode cX8_requirePool 7 = .ok (.iload_n 1, 1) := by decide +kernel
theorem dX8_requirePool_8 : decode cX8_requirePool 8 = .ok (.ifCond .lt 14, 3) := by decide +kernel
theorem dX8_requirePool_11 : decode cX8_requirePool 11 = .ok (.iload_n 1, 1) := by decide +kernel
theorem dX8_requirePool_12 : decode cX8_requirePool 12 = .ok (.aload_n 0, 1) := by decide +kernel
theorem dX8_requirePool_13 : decode cX8_requirePool 13 = .ok (.getfield 38, 3) := by decide +kernel
theorem dX8_requirePool_16 : decode cX8_requirePool 16 = .ok (.invokevirtual 305, 3) := by decide +kernel
theorem dX8_requirePool_19 : decode cX8_requirePool 19 = .ok (.if_icmp .le 14, 3) := by decide +kernel
theorem dX8_requirePool_22 : decode cX8_requirePool 22 = .ok (.new 117, 3) := by decide +kernel
theorem dX8_requirePool_25 : decode cX8_requirePool 25 = .ok (.dup, 1) := by decide +kernel
theorem dX8_requirePool_26 : decode cX8_requirePool 26 = .ok (.ldc_w 377, 3) := by decide +kernel
theorem dX8_requirePool_29 : decode cX8_requirePool 29 = .ok (.invokespecial 121, 3) := by decide +kernel
theorem dX8_requirePool_32 : decode cX8_requirePool 32 = .ok (.athrow, 1) := by decide +kernel
theorem dX8_requirePool_33 : decode cX8_requirePool 33 = .ok (.return_, 1) := by decide +kernel
theorem dX8_requireLiteral_0 : decode cX8_requireLiteral 0 = .ok (.aload_n 0, 1) := by decide +kernel
theorem dX8_requireLiteral_1 : decode cX8_requireLiteral 1 = .ok (.iload_n 1, 1) := by decide +kernel
theorem dX8_requireLiteral_2 : decode cX8_requireLiteral 2 = .ok (.invokevirtual 308, 3) := by decide +kernel
theorem dX8_requireLiteral_5 : decode cX8_requireLiteral 5 = .ok (.iload_n 2, 1) := by decide +kernel
theorem dX8_requireLiteral_6 : decode cX8_requireLiteral 6 = .ok (.ifCond .lt 15, 3) := by decide +kernel
theorem dX8_requireLiteral_9 : decode cX8_requireLiteral 9 = .ok (.iload_n 2, 1) := by decide +kernel
theorem dX8_requireLiteral_10 : decode cX8_requireLiteral 10 = .ok (.aload_n 0, 1) := by decide +kernel
theorem dX8_requireLiteral_11 : decode cX8_requireLiteral 11 = .ok (.getfield 38, 3) := by decide +kernel
theorem dX8_requireLiteral_14 : decode cX8_requireLiteral 14 = .ok (.iload_n 1, 1) := by decide +kernel
theorem dX8_requireLiteral_15 : decode cX8_requireLiteral 15 = .ok (.invokevirtual 311, 3) := by decide +kernel
theorem dX8_requireLiteral_18 : decode cX8_requireLiteral 18 = .ok (.if_icmp .lt 14, 3) := by decide +kernel
theorem dX8_requireLiteral_21 : decode cX8_requireLiteral 21 = .ok (.new 117, 3) := by decide +kernel
theorem dX8_requireLiteral_24 : decode cX8_requireLiteral 24 = .ok (.dup, 1) := by decide +kernel
theorem dX8_requireLiteral_25 : decode cX8_requireLiteral 25 = .ok (.ldc_w 379, 3) := by decide +kernel
theorem dX8_requireLiteral_28 : decode cX8_requireLiteral 28 = .ok (.invokespecial 121, 3) := by decide +kernel
theorem dX8_requireLiteral_31 : decode cX8_requireLiteral 31 = .ok (.athrow, 1) := by decide +kernel
theorem dX8_requireLiteral_32 : decode cX8_requireLiteral 32 = .ok (.return_, 1) := by decide +kernel
theorem dX8_nameOf_0 : decode cX8_nameOf 0 = .ok (.iload_n 0, 1) := by decide +kernel
theorem dX8_nameOf_1 : decode cX8_nameOf 1 = .ok (.tableswitch 79 0 7 #[47, 51, 55, 59, 63, 67, 71, 75], 47) := by decide +kernel
theorem dX8_nameOf_48 : decode cX8_nameOf 48 = .ok (.ldc_w 381, 3) := by decide +kernel
theorem dX8_nameOf_51 : decode cX8_nameOf 51 = .ok (.areturn, 1) := by decide +kernel
theorem dX8_nameOf_52 : decode cX8_nameOf 52 = .ok (.ldc_w 383, 3) := by decide +kernel
theorem dX8_nameOf_55 : decode cX8_nameOf 55 = .ok (.areturn, 1) := by decide +kernel
theorem dX8_nameOf_56 : decode cX8_nameOf 56 = .ok (.ldc_w 385, 3) := by decide +kernel
theorem dX8_nameOf_59 : decode cX8_nameOf 59 = .ok (.areturn, 1) := by decide +kernel
theorem dX8_nameOf_60 : decode cX8_nameOf 60 = .ok (.ldc_w 387, 3) := by decide +kernel
theorem dX8_nameOf_63 : decode cX8_nameOf 63 = .ok (.areturn, 1) := by decide +kernel
theorem dX8_nameOf_64 : decode cX8_nameOf 64 = .ok (.ldc_w 389, 3) := by decide +kernel
theorem dX8_nameOf_67 : decode cX8_nameOf 67 = .ok (.areturn, 1) := by decide +kernel
theorem dX8_nameOf_68 : decode cX8_nameOf 68 = .ok (.ldc_w 391, 3) := by decide +kernel
theorem dX8_nameOf_71 : decode cX8_nameOf 71 = .ok (.areturn, 1) := by decide +kernel
theorem dX8_nameOf_72 : decode cX8_nameOf 72 = .ok (.ldc_w 393, 3) := by decide +kernel
theorem dX8_nameOf_75 : decode cX8_nameOf 75 = .ok (.areturn, 1) := by decide +kernel
theorem dX8_nameOf_76 : decode cX8_nameOf 76 = .ok (.ldc_w 395, 3) := by decide +kernel
theorem dX8_nameOf_79 : decode cX8_nameOf 79 = .ok (.areturn, 1) := by decide +kernel
theorem dX8_nameOf_80 : decode cX8_nameOf 80 = .ok (.ldc_w 397, 3) := by decide +kernel
theorem dX8_nameOf_83 : decode cX8_nameOf 83 = .ok (.areturn, 1) := by decide +kernel
theorem dX8_isOperand_0 : decode cX8_isOperand 0 = .ok (.iload_n 0, 1) := by decide +kernel
theorem dX8_isOperand_1 : decode cX8_isOperand 1 = .ok (.tableswitch 139 0 7 #[47, 64, 97, 81, 97, 97, 113, 129], 47) := by decide +kernel
theorem dX8_isOperand_48 : decode cX8_isOperand 48 = .ok (.iload_n 1, 1) := by decide +kernel
theorem dX8_isOperand_49 : decode cX8_isOperand 49 = .ok (.iconst 1, 1) := by decide +kernel
theorem dX8_isOperand_50 : decode cX8_isOperand 50 = .ok (.if_icmp .lt 13, 3) := by decide +kernel
theorem dX8_isOperand_53 : decode cX8_isOperand 53 = .ok (.iload_n 1, 1) := by decide +kernel
theorem dX8_isOperand_54 : decode cX8_isOperand 54 = .ok (.bipush 9, 2) := by decide +kernel
theorem dX8_isOperand_56 : decode cX8_isOperand 56 = .ok (.if_icmp .gt 7, 3) := by decide +kernel
theorem dX8_isOperand_59 : decode cX8_isOperand 59 = .ok (.iconst 1, 1) := by decide +kernel
theorem dX8_isOperand_60 : decode cX8_isOperand 60 = .ok (.goto 4, 3) := by decide +kernel
theorem dX8_isOperand_63 : decode cX8_isOperand 63 = .ok (.iconst 0, 1) := by decide +kernel
theorem dX8_isOperand_64 : decode cX8_isOperand 64 = .ok (.ireturn, 1) := by decide +kernel
theorem dX8_isOperand_65 : decode cX8_isOperand 65 = .ok (.iload_n 1, 1) := by decide +kernel
theorem dX8_isOperand_66 : decode cX8_isOperand 66 = .ok (.iconst 1, 1) := by decide +kernel
theorem dX8_isOperand_67 : decode cX8_isOperand 67 = .ok (.if_icmp .lt 13, 3) := by decide +kernel
theorem dX8_isOperand_70 : decode cX8_isOperand 70 = .ok (.iload_n 1, 1) := by decide +kernel
theorem dX8_isOperand_71 : decode cX8_isOperand 71 = .ok (.bipush 50, 2) := by decide +kernel
theorem dX8_isOperand_73 : decode cX8_isOperand 73 = .ok (.if_icmp .gt 7, 3) := by decide +kernel
theorem dX8_isOperand_76 : decode cX8_isOperand 76 = .ok (.iconst 1, 1) := by decide +kernel
theorem dX8_isOperand_77 : decode cX8_isOperand 77 = .ok (.goto 4, 3) := by decide +kernel
theorem dX8_isOperand_80 : decode cX8_isOperand 80 = .ok (.iconst 0, 1) := by decide +kernel
theorem dX8_isOperand_81 : decode cX8_isOperand 81 = .ok (.ireturn, 1) := by decide +kernel
theorem dX8_isOperand_82 : decode cX8_isOperand 82 = .ok (.iload_n 1, 1) := by decide +kernel
theorem dX8_isOperand_83 : decode cX8_isOperand 83 = .ok (.iconst 1, 1) := by decide +kernel
theorem dX8_isOperand_84 : decode cX8_isOperand 84 = .ok (.if_icmp .lt 12, 3) := by decide +kernel
theorem dX8_isOperand_87 : decode cX8_isOperand 87 = .ok (.iload_n 1, 1) := by decide +kernel
theorem dX8_isOperand_88 : decode cX8_isOperand 88 = .ok (.iconst 4, 1) := by decide +kernel
theorem dX8_isOperand_89 : decode cX8_isOperand 89 = .ok (.if_icmp .gt 7, 3) := by decide +kernel
theorem dX8_isOperand_92 : decode cX8_isOperand 92 = .ok (.iconst 1, 1) := by decide +kernel
theorem dX8_isOperand_93 : decode cX8_isOperand 93 = .ok (.goto 4, 3) := by decide +kernel
theorem dX8_isOperand_96 : decode cX8_isOperand 96 = .ok (.iconst 0, 1) := by decide +kernel
theorem dX8_isOperand_97 : decode cX8_isOperand 97 = .ok (.ireturn, 1) := by decide +kernel
theorem dX8_isOperand_98 : decode cX8_isOperand 98 = .ok (.iload_n 1, 1) := by decide +kernel
theorem dX8_isOperand_99 : decode cX8_isOperand 99 = .ok (.ifCond .lt 13, 3) := by decide +kernel
theorem dX8_isOperand_102 : decode cX8_isOperand 102 = .ok (.iload_n 1, 1) := by decide +kernel
theorem dX8_isOperand_103 : decode cX8_isOperand 103 = .ok (.bipush 10, 2) := by decide +kernel
theorem dX8_isOperand_105 : decode cX8_isOperand 105 = .ok (.if_icmp .ge 7, 3) := by decide +kernel
theorem dX8_isOperand_108 : decode cX8_isOperand 108 = .ok (.iconst 1, 1) := by decide +kernel
theorem dX8_isOperand_109 : decode cX8_isOperand 109 = .ok (.goto 4, 3) := by decide +kernel
theorem dX8_isOperand_112 : decode cX8_isOperand 112 = .ok (.iconst 0, 1) := by decide +kernel
theorem dX8_isOperand_113 : decode cX8_isOperand 113 = .ok (.ireturn, 1) := by decide +kernel
theorem dX8_isOperand_114 : decode cX8_isOperand 114 = .ok (.iload_n 1, 1) := by decide +kernel
theorem dX8_isOperand_115 : decode cX8_isOperand 115 = .ok (.ifCond .lt 13, 3) := by decide +kernel
theorem dX8_isOperand_118 : decode cX8_isOperand 118 = .ok (.iload_n 1, 1) := by decide +kernel
theorem dX8_isOperand_119 : decode cX8_isOperand 119 = .ok (.bipush 100, 2) := by decide +kernel
theorem dX8_isOperand_121 : decode cX8_isOperand 121 = .ok (.if_icmp .ge 7, 3) := by decide +kernel
theorem dX8_isOperand_124 : decode cX8_isOperand 124 = .ok (.iconst 1, 1) := by decide +kernel
theorem dX8_isOperand_125 : decode cX8_isOperand 125 = .ok (.goto 4, 3) := by decide +kernel
theorem dX8_isOperand_128 : decode cX8_isOperand 128 = .ok (.iconst 0, 1) := by decide +kernel
theorem dX8_isOperand_129 : decode cX8_isOperand 129 = .ok (.ireturn, 1) := by decide +kernel
theorem dX8_isOperand_130 : decode cX8_isOperand 130 = .ok (.iload_n 1, 1) := by decide +kernel
theorem dX8_isOperand_131 : decode cX8_isOperand 131 = .ok (.ifCond .ne 7, 3) := by decide +kernel
theorem dX8_isOperand_134 : decode cX8_isOperand 134 = .ok (.iconst 1, 1) := by decide +kernel
theorem dX8_isOperand_135 : decode cX8_isOperand 135 = .ok (.goto 4, 3) := by decide +kernel
theorem dX8_isOperand_138 : decode cX8_isOperand 138 = .ok (.iconst 0, 1) := by decide +kernel
theorem dX8_isOperand_139 : decode cX8_isOperand 139 = .ok (.ireturn, 1) := by decide +kernel
theorem dX8_isOperand_140 : decode cX8_isOperand 140 = .ok (.iconst 0, 1) := by decide +kernel
theorem dX8_isOperand_141 : decode cX8_isOperand 141 = .ok (.ireturn, 1) := by decide +kernel
theorem dX8_formFor_0 : decode cX8_formFor 0 = .ok (.iload_n 0, 1) := by decide +kernel
theorem dX8_formFor_1 : decode cX8_formFor 1 = .ok (.bipush (-16), 2) := by decide +kernel
theorem dX8_formFor_3 : decode cX8_formFor 3 = .ok (.if_icmp .lt 11, 3) := by decide +kernel
theorem dX8_formFor_6 : decode cX8_formFor 6 = .ok (.iload_n 0, 1) := by decide +kernel
theorem dX8_formFor_7 : decode cX8_formFor 7 = .ok (.bipush 15, 2) := by decide +kernel
theorem dX8_formFor_9 : decode cX8_formFor 9 = .ok (.if_icmp .gt 5, 3) := by decide +kernel
theorem dX8_formFor_12 : decode cX8_formFor 12 = .ok (.iconst 0, 1) := by decide +kernel
theorem dX8_formFor_13 : decode cX8_formFor 13 = .ok (.ireturn, 1) := by decide +kernel
theorem dX8_formFor_14 : decode cX8_formFor 14 = .ok (.iload_n 0, 1) := by decide +kernel
theorem dX8_formFor_15 : decode cX8_formFor 15 = .ok (.bipush (-100), 2) := by decide +kernel
theorem dX8_formFor_17 : decode cX8_formFor 17 = .ok (.if_icmp .lt 13, 3) := by decide +kernel
theorem dX8_formFor_20 : decode cX8_formFor 20 = .ok (.iload_n 0, 1) := by decide +kernel
theorem dX8_formFor_21 : decode cX8_formFor 21 = .ok (.bipush 99, 2) := by decide +kernel
theorem dX8_formFor_23 : decode cX8_formFor 23 = .ok (.if_icmp .gt 7, 3) := by decide +kernel
theorem dX8_formFor_26 : decode cX8_formFor 26 = .ok (.iconst 1, 1) := by decide +kernel
theorem dX8_formFor_27 : decode cX8_formFor 27 = .ok (.goto 4, 3) := by decide +kernel
theorem dX8_formFor_30 : decode cX8_formFor 30 = .ok (.iconst 2, 1) := by decide +kernel
theorem dX8_formFor_31 : decode cX8_formFor 31 = .ok (.ireturn, 1) := by decide +kernel
theorem dX8_jumpSize_0 : decode cX8_jumpSize 0 = .ok (.iload_n 0, 1) := by decide +kernel
theorem dX8_jumpSize_1 : decode cX8_jumpSize 1 = .ok (.ifCond .ne 7, 3) := by decide +kernel
theorem dX8_jumpSize_4 : decode cX8_jumpSize 4 = .ok (.iconst 2, 1) := by decide +kernel
theorem dX8_jumpSize_5 : decode cX8_jumpSize 5 = .ok (.goto 13, 3) := by decide +kernel
theorem dX8_jumpSize_8 : decode cX8_jumpSize 8 = .ok (.iload_n 0, 1) := by decide +kernel
theorem dX8_jumpSize_9 : decode cX8_jumpSize 9 = .ok (.iconst 1, 1) := by decide +kernel
theorem dX8_jumpSize_10 : decode cX8_jumpSize 10 = .ok (.if_icmp .ne 7, 3) := by decide +kernel
theorem dX8_jumpSize_13 : decode cX8_jumpSize 13 = .ok (.iconst 3, 1) := by decide +kernel
theorem dX8_jumpSize_14 : decode cX8_jumpSize 14 = .ok (.goto 4, 3) := by decide +kernel
theorem dX8_jumpSize_17 : decode cX8_jumpSize 17 = .ok (.iconst 5, 1) := by decide +kernel
theorem dX8_jumpSize_18 : decode cX8_jumpSize 18 = .ok (.ireturn, 1) := by decide +kernel
theorem dX8_branchSize_0 : decode cX8_branchSize 0 = .ok (.iload_n 0, 1) := by decide +kernel
theorem dX8_branchSize_1 : decode cX8_branchSize 1 = .ok (.ifCond .ne 7, 3) := by decide +kernel
theorem dX8_branchSize_4 : decode cX8_branchSize 4 = .ok (.iconst 2, 1) := by decide +kernel
theorem dX8_branchSize_5 : decode cX8_branchSize 5 = .ok (.goto 14, 3) := by decide +kernel
theorem dX8_branchSize_8 : decode cX8_branchSize 8 = .ok (.iload_n 0, 1) := by decide +kernel
theorem dX8_branchSize_9 : decode cX8_branchSize 9 = .ok (.iconst 1, 1) := by decide +kernel
theorem dX8_branchSize_10 : decode cX8_branchSize 10 = .ok (.if_icmp .ne 7, 3) := by decide +kernel
theorem dX8_branchSize_13 : decode cX8_branchSize 13 = .ok (.iconst 4, 1) := by decide +kernel
theorem dX8_branchSize_14 : decode cX8_branchSize 14 = .ok (.goto 5, 3) := by decide +kernel
theorem dX8_branchSize_17 : decode cX8_branchSize 17 = .ok (.bipush 7, 2) := by decide +kernel
theorem dX8_branchSize_19 : decode cX8_branchSize 19 = .ok (.ireturn, 1) := by decide +kernel
theorem dX8_gapTo_0 : decode cX8_gapTo 0 = .ok (.iload_n 0, 1) := by decide +kernel
theorem dX8_gapTo_1 : decode cX8_gapTo 1 = .ok (.ineg, 1) := by decide +kernel
theorem dX8_gapTo_2 : decode cX8_gapTo 2 = .ok (.iload_n 1, 1) := by decide +kernel
theorem dX8_gapTo_3 : decode cX8_gapTo 3 = .ok (.iconst 1, 1) := by decide +kernel
theorem dX8_gapTo_4 : decode cX8_gapTo 4 = .ok (.isub, 1) := by decide +kernel
theorem dX8_gapTo_5 : decode cX8_gapTo 5 = .ok (.iand, 1) := by decide +kernel
theorem dX8_gapTo_6 : decode cX8_gapTo 6 = .ok (.ireturn, 1) := by decide +kernel
end
section
theorem dX9_init_0 : decode cX9_init 0 = .ok (.aload_n 0, 1) := by decide +kernel
theorem dX9_init_1 : decode cX9_init 1 = .ok (.invokespecial 1, 3) := by decide +kernel
theorem dX9_init_4 : decode cX9_init 4 = .ok (.aload_n 0, 1) := by decide +kernel
theorem dX9_init_5 : decode cX9_init 5 = .ok (.bipush 121, 2) := by decide +kernel
theorem dX9_init_7 : decode cX9_init 7 = .ok (.newarray .int, 2) := by decide +kernel
theorem dX9_init_9 : decode cX9_init 9 = .ok (.putfield 7, 3) := by decide +kernel
theorem dX9_init_12 : decode cX9_init 12 = .ok (.aload_n 0, 1) := by decide +kernel
theorem dX9_init_13 : decode cX9_init 13 = .ok (.sipush 1210, 3) := by decide +kernel
theorem dX9_init_16 : decode cX9_init 16 = .ok (.newarray .int, 2) := by decide +kernel
theorem dX9_init_18 : decode cX9_init 18 = .ok (.putfield 13, 3) := by decide +kernel
theorem dX9_init_21 : decode cX9_init 21 = .ok (.aload_n 0, 1) := by decide +kernel
theorem dX9_init_22 : decode cX9_init 22 = .ok (.bipush 121, 2) := by decide +kernel
theorem dX9_init_24 : decode cX9_init 24 = .ok (.newarray .int, 2) := by decide +kernel
theorem dX9_init_26 : decode cX9_init 26 = .ok (.putfield 16, 3) := by decide +kernel
theorem dX9_init_29 : decode cX9_init 29 = .ok (.aload_n 0, 1) := by decide +kernel
theorem dX9_init_30 : decode cX9_init 30 = .ok (.bipush 12, 2) := by decide +kernel
theorem dX9_init_32 : decode cX9_init 32 = .ok (.newarray .char, 2) := by decide +kernel
theorem dX9_init_34 : decode cX9_init 34 = .ok (.putfield 19, 3) := by decide +kernel
theorem dX9_init_37 : decode cX9_init 37 = .ok (.aload_n 0, 1) := by decide +kernel
theorem dX9_init_38 : decode cX9_init 38 = .ok (.iconst (-1), 1) := by decide +kernel
theorem dX9_init_39 : decode cX9_init 39 = .ok (.putfield 23, 3) := by decide +kernel
theorem dX9_init_42 : decode cX9_init 42 = .ok (.aload_n 0, 1) := by decide +kernel
theorem dX9_init_43 : decode cX9_init 43 = .ok (.bipush 41, 2) := by decide +kernel
theorem dX9_init_45 : decode cX9_init 45 = .ok (.newarray .int, 2) := by decide +kernel
theorem dX9_init_47 : decode cX9_init 47 = .ok (.putfield 27, 3) := by decide +kernel
theorem dX9_init_50 : decode cX9_init 50 = .ok (.aload_n 0, 1) := by decide +kernel
theorem dX9_init_51 : decode cX9_init 51 = .ok (.bipush 40, 2) := by decide +kernel
theorem dX9_init_53 : decode cX9_init 53 = .ok (.newarray .int, 2) := by decide +kernel
theorem dX9_init_55 : decode cX9_init 55 = .ok (.putfield 30, 3) := by decide +kernel
theorem dX9_init_58 : decode cX9_init 58 = .ok (.aload_n 0, 1) := by decide +kernel
theorem dX9_init_59 : decode cX9_init 59 = .ok (.bipush 48, 2) := by decide +kernel
theorem dX9_init_61 : decode cX9_init 61 = .ok (.newarray .int, 2) := by decide +kernel
theorem dX9_init_63 : decode cX9_init 63 = .ok (.dup, 1) := by decide +kernel
theorem dX9_init_64 : decode cX9_init 64 = .ok (.iconst 0, 1) := by decide +kernel
theorem dX9_init_65 : decode cX9_init 65 = .ok (.bipush 99, 2) := by decide +kernel
theorem dX9_init_67 : decode cX9_init 67 = .ok (.iastore, 1) := by decide +kernel
theorem dX9_init_68 : decode cX9_init 68 = .ok (.dup, 1) := by decide +kernel
theorem dX9_init_69 : decode cX9_init 69 = .ok (.iconst 1, 1) := by decide +kernel
theorem dX9_init_70 : decode cX9_init 70 = .ok (.bipush 111, 2) := by decide +kernel
theorem dX9_init_72 : decode cX9_init 72 = .ok (.iastore, 1) := by decide +kernel
theorem dX9_init_73 : decode cX9_init 73 = .ok (.dup, 1) := by decide +kernel
theorem dX9_init_74 : decode cX9_init 74 = .ok (.iconst 2, 1) := by decide +kernel
theorem dX9_init_75 : decode cX9_init 75 = .ok (.bipush 100, 2) := by decide +kernel
theorem dX9_init_77 : decode cX9_init 77 = .ok (.iastore, 1) := by decide +kernel
theorem dX9_init_78 : decode cX9_init 78 = .ok (.dup, 1) := by decide +kernel
theorem dX9_init_79 : decode cX9_init 79 = .ok (.iconst 3, 1) := by decide +kernel
theorem dX9_init_80 : decode cX9_init 80 = .ok (.bipush 101, 2) := by decide +kernel
theorem dX9_init_82 : decode cX9_init 82 = .ok (.iastore, 1) := by decide +kernel
theorem dX9_init_83 : decode cX9_init 83 = .ok (.dup, 1) := by decide +kernel
theorem dX9_init_84 : decode cX9_init 84 = .ok (.iconst 4, 1) := by decide +kernel
theorem dX9_init_85 : decode cX9_init 85 = .ok (.bipush 32, 2) := by decide +kernel
theorem dX9_init_87 : decode cX9_init 87 = .ok (.iastore, 1) := by decide +kernel
theorem dX9_init_88 : decode cX9_init 88 = .ok (.dup, 1) := by decide +kernel
theorem dX9_init_89 : decode cX9_init 89 = .ok (.iconst 5, 1) := by decide +kernel
theorem dX9_init_90 : decode cX9_init 90 = .ok (.bipush 32, 2) := by decide +kernel
theorem dX9_init_92 : decode cX9_init 92 = .ok (.iastore, 1) := by decide +kernel
theorem dX9_init_93 : decode cX9_init 93 = .ok (.dup, 1) := by decide +kernel
theorem dX9_init_94 : decode cX9_init 94 = .ok (.bipush 6, 2) := by decide +kernel
theorem dX9_init_96 : decode cX9_init 96 = .ok (.bipush 100, 2) := by decide +kernel
theorem dX9_init_98 : decode cX9_init 98 = .ok (.iastore, 1) := by decide +kernel
theorem dX9_init_99 : decode cX9_init 99 = .ok (.dup, 1) := by decide +kernel
theorem dX9_init_100 : decode cX9_init 100 = .ok (.bipush 7, 2) := by decide +kernel
theorem dX9_init_102 : decode cX9_init 102 = .ok (.bipush 97, 2) := by decide +kernel
theorem dX9_init_104 : decode cX9_init 104 = .ok (.iastore, 1) := by decide +kernel
theorem dX9_init_105 : decode cX9_init 105 = .ok (.dup, 1) := by decide +kernel
theorem dX9_init_106 : decode cX9_init 106 = .ok (.bipush 8, 2) := by decide +kernel
theorem dX9_init_108 : decode cX9_init 108 = .ok (.bipush 116, 2) := by decide +kernel
theorem dX9_init_110 : decode cX9_init 110 = .ok (.iastore, 1) := by decide +kernel
theorem dX9_init_111 : decode cX9_init 111 = .ok (.dup, 1) := by decide +kernel
theorem dX9_init_112 : decode cX9_init 112 = .ok (.bipush 9, 2) := by decide +kernel
theorem dX9_init_114 : decode cX9_init 114 = .ok (.bipush 97, 2) := by decide +kernel
theorem dX9_init_116 : decode cX9_init 116 = .ok (.iastore, 1) := by decide +kernel
theorem dX9_init_117 : decode cX9_init 117 = .ok (.dup, 1) := by decide +kernel
theorem dX9_init_118 : decode cX9_init 118 = .ok (.bipush 10, 2) := by decide +kernel
theorem dX9_init_120 : decode cX9_init 120 = .ok (.bipush 32, 2) := by decide +kernel
theorem dX9_init_122 : decode cX9_init 122 = .ok (.iastore, 1) := by decide +kernel
theorem dX9_init_123 : decode cX9_init 123 = .ok (.dup, 1) := by decide +kernel
theorem dX9_init_124 : decode cX9_init 124 = .ok (.bipush 11, 2) := by decide +kernel
theorem dX9_init_126 : decode cX9_init 126 = .ok (.bipush 32, 2) := by decide +kernel
theorem dX9_init_128 : decode cX9_init 128 = .ok (.iastore, 1) := by decide +kernel
theorem dX9_init_129 : decode cX9_init 129 = .ok (.dup, 1) := by decide +kernel
theorem dX9_init_130 : decode cX9_init 130 = .ok (.bipush 12, 2) := by decide +kernel
theorem dX9_init_132 : decode cX9_init 132 = .ok (.bipush 108, 2) := by decide +kernel
theorem dX9_init_134 : decode cX9_init 134 = .ok (.iastore, 1) := by decide +kernel
theorem dX9_init_135 : decode cX9_init 135 = .ok (.dup, 1) := by decide +kernel
theorem dX9_init_136 : decode cX9_init 136 = .ok (.bipush 13, 2) := by decide +kernel
theorem dX9_init_138 : decode cX9_init 138 = .ok (.bipush 97, 2) := by decide +kernel
theorem dX9_init_140 : decode cX9_init 140 = .ok (.iastore, 1) := by decide +kernel
theorem dX9_init_141 : decode cX9_init 141 = .ok (.dup, 1) := by decide +kernel
theorem dX9_init_142 : decode cX9_init 142 = .ok (.bipush 14, 2) := by decide +kernel
theorem dX9_init_144 : decode cX9_init 144 = .ok (.bipush 98, 2) := by decide +kernel
theorem dX9_init_146 : decode cX9_init 146 = .ok (.iastore, 1) := by decide +kernel
theorem dX9_init_147 : decode cX9_init 147 = .ok (.dup, 1) := by decide +kernel
theorem dX9_init_148 : decode cX9_init 148 = .ok (.bipush 15, 2) := by decide +kernel
theorem dX9_init_150 : decode cX9_init 150 = .ok (.bipush 101, 2) := by decide +kernel
theorem dX9_init_152 : decode cX9_init 152 = .ok (.iastore, 1) := by decide +kernel
theorem dX9_init_153 : decode cX9_init 153 = .ok (.dup, 1) := by decide +kernel
theorem dX9_init_154 : decode cX9_init 154 = .ok (.bipush 16, 2) := by decide +kernel
theorem dX9_init_156 : decode cX9_init 156 = .ok (.bipush 108, 2) := by decide +kernel
theorem dX9_init_158 : decode cX9_init 158 = .ok (.iastore, 1) := by decide +kernel
theorem dX9_init_159 : decode cX9_init 159 = .ok (.dup, 1) := by decide +kernel
theorem dX9_init_160 : decode cX9_init 160 = .ok (.bipush 17, 2) := by decide +kernel
theorem dX9_init_162 : decode cX9_init 162 = .ok (.bipush 32, 2) := by decide +kernel
theorem dX9_init_164 : decode cX9_init 164 = .ok (.iastore, 1) := by decide +kernel
theorem dX9_init_165 : decode cX9_init 165 = .ok (.dup, 1) := by decide +kernel
theorem dX9_init_166 : decode cX9_init 166 = .ok (.bipush 18, 2) := by decide +kernel
theorem dX9_init_168 : decode cX9_init 168 = .ok (.bipush 97, 2) := by decide +kernel
theorem dX9_init_170 : decode cX9_init 170 = .ok (.iastore, 1) := by decide +kernel
theorem dX9_init_171 : decode cX9_init 171 = .ok (.dup, 1) := by decide +kernel
theorem dX9_init_172 : decode cX9_init 172 = .ok (.bipush 19, 2) := by decide +kernel
theorem dX9_init_174 : decode cX9_init 174 = .ok (.bipush 108, 2) := by decide +kernel
theorem dX9_init_176 : decode cX9_init 176 = .ok (.iastore, 1) := by decide +kernel
theorem dX9_init_177 : decode cX9_init 177 = .ok (.dup, 1) := by decide +kernel
theorem dX9_init_178 : decode cX9_init 178 = .ok (.bipush 20, 2) := by decide +kernel
theorem dX9_init_180 : decode cX9_init 180 = .ok (.bipush 105, 2) := by decide +kernel
theorem dX9_init_182 : decode cX9_init 182 = .ok (.iastore, 1) := by decide +kernel
theorem dX9_init_183 : decode cX9_init 183 = .ok (.dup, 1) := by decide +kernel
theorem dX9_init_184 : decode cX9_init 184 = .ok (.bipush 21, 2) := by decide +kernel
theorem dX9_init_186 : decode cX9_init 186 = .ok (.bipush 103, 2) := by decide +kernel
theorem dX9_init_188 : decode cX9_init 188 = .ok (.iastore, 1) := by decide +kernel
theorem dX9_init_189 : decode cX9_init 189 = .ok (.dup, 1) := by decide +kernel
theorem dX9_init_190 : decode cX9_init 190 = .ok (.bipush 22, 2) := by decide +kernel
theorem dX9_init_192 : decode cX9_init 192 = .ok (.bipush 110, 2) := by decide +kernel
theorem dX9_init_194 : decode cX9_init 194 = .ok (.iastore, 1) := by decide +kernel
theorem dX9_init_195 : decode cX9_init 195 = .ok (.dup, 1) := by decide +kernel
theorem dX9_init_196 : decode cX9_init 196 = .ok (.bipush 23, 2) := by decide +kernel
theorem dX9_init_198 : decode cX9_init 198 = .ok (.bipush 32, 2) := by decide +kernel
theorem dX9_init_200 : decode cX9_init 200 = .ok (.iastore, 1) := by decide +kernel
theorem dX9_init_201 : decode cX9_init 201 = .ok (.dup, 1) := by decide +kernel
theorem dX9_init_202 : decode cX9_init 202 = .ok (.bipush 24, 2) := by decide +kernel
theorem dX9_init_204 : decode cX9_init 204 = .ok (.bipush 106, 2) := by decide +kernel
theorem dX9_init_206 : decode cX9_init 206 = .ok (.iastore, 1) := by decide +kernel
theorem dX9_init_207 : decode cX9_init 207 = .ok (.dup, 1) := by decide +kernel
theorem dX9_init_208 : decode cX9_init 208 = .ok (.bipush 25, 2) := by decide +kernel
theorem dX9_init_210 : decode cX9_init 210 = .ok (.bipush 117, 2) := by decide +kernel
theorem dX9_init_212 : decode cX9_init 212 = .ok (.iastore, 1) := by decide +kernel
theorem dX9_init_213 : decode cX9_init 213 = .ok (.dup, 1) := by decide +kernel
theorem dX9_init_214 : decode cX9_init 214 = .ok (.bipush 26, 2) := by decide +kernel
theorem dX9_init_216 : decode cX9_init 216 = .ok (.bipush 109, 2) := by decide +kernel
theorem dX9_init_218 : decode cX9_init 218 = .ok (.iastore, 1) := by decide +kernel
theorem dX9_init_219 : decode cX9_init 219 = .ok (.dup, 1) := by decide +kernel
theorem dX9_init_220 : decode cX9_init 220 = .ok (.bipush 27, 2) := by decide +kernel
theorem dX9_init_222 : decode cX9_init 222 = .ok (.bipush 112, 2) := by decide +kernel
theorem dX9_init_224 : decode cX9_init 224 = .ok (.iastore, 1) := by decide +kernel
theorem dX9_init_225 : decode cX9_init 225 = .ok (.dup, 1) := by decide +kernel
theorem dX9_init_226 : decode cX9_init 226 = .ok (.bipush 28, 2) := by decide +kernel
theorem dX9_init_228 : decode cX9_init 228 = .ok (.bipush 32, 2) := by decide +kernel
theorem dX9_init_230 : decode cX9_init 230 = .ok (.iastore, 1) := by decide +kernel
theorem dX9_init_231 : decode cX9_init 231 = .ok (.dup, 1) := by decide +kernel
theorem dX9_init_232 : decode cX9_init 232 = .ok (.bipush 29, 2) := by decide +kernel
theorem dX9_init_234 : decode cX9_init 234 = .ok (.bipush 32, 2) := by decide +kernel
theorem dX9_init_236 : decode cX9_init 236 = .ok (.iastore, 1) := by decide +kernel
theorem dX9_init_237 : decode cX9_init 237 = .ok (.dup, 1) := by decide +kernel
theorem dX9_init_238 : decode cX9_init 238 = .ok (.bipush 30, 2) := by decide +kernel
theorem dX9_init_240 : decode cX9_init 240 = .ok (.bipush 98, 2) := by decide +kernel
theorem dX9_init_242 : decode cX9_init 242 = .ok (.iastore, 1) := by decide +kernel
theorem dX9_init_243 : decode cX9_init 243 = .ok (.dup, 1) := by decide +kernel
theorem dX9_init_244 : decode cX9_init 244 = .ok (.bipush 31, 2) := by decide +kernel
theorem dX9_init_246 : decode cX9_init 246 = .ok (.bipush 114, 2) := by decide +kernel
theorem dX9_init_248 : decode cX9_init 248 = .ok (.iastore, 1) := by decide +kernel
theorem dX9_init_249 : decode cX9_init 249 = .ok (.dup, 1) := by decide +kernel
theorem dX9_init_250 : decode cX9_init 250 = .ok (.bipush 32, 2) := by decide +kernel
theorem dX9_init_252 : decode cX9_init 252 = .ok (.bipush 97, 2) := by decide +kernel
theorem dX9_init_254 : decode cX9_init 254 = .ok (.iastore, 1) := by decide +kernel
theorem dX9_init_255 : decode cX9_init 255 = .ok (.dup, 1) := by decide +kernel
theorem dX9_init_256 : decode cX9_init 256 = .ok (.bipush 33, 2) := by decide +kernel
theorem dX9_init_258 : decode cX9_init 258 = .ok (.bipush 110, 2) := by decide +kernel
theorem dX9_init_260 : decode cX9_init 260 = .ok (.iastore, 1) := by decide +kernel
theorem dX9_init_261 : decode cX9_init 261 = .ok (.dup, 1) := by decide +kernel
theorem dX9_init_262 : decode cX9_init 262 = .ok (.bipush 34, 2) := by decide +kernel
theorem dX9_init_264 : decode cX9_init 264 = .ok (.bipush 99, 2) := by decide +kernel
theorem dX9_init_266 : decode cX9_init 266 = .ok (.iastore, 1) := by decide +kernel
theorem dX9_init_267 : decode cX9_init 267 = .ok (.dup, 1) := by decide +kernel
theorem dX9_init_268 : decode cX9_init 268 = .ok (.bipush 35, 2) := by decide +kernel
theorem dX9_init_270 : decode cX9_init 270 = .ok (.bipush 104, 2) := by decide +kernel
theorem dX9_init_272 : decode cX9_init 272 = .ok (.iastore, 1) := by decide +kernel
theorem dX9_init_273 : decode cX9_init 273 = .ok (.dup, 1) := by decide +kernel
theorem dX9_init_274 : decode cX9_init 274 = .ok (.bipush 36, 2) := by decide +kernel
theorem dX9_init_276 : decode cX9_init 276 = .ok (.bipush 108, 2) := by decide +kernel
theorem dX9_init_278 : decode cX9_init 278 = .ok (.iastore, 1) := by decide +kernel
theorem dX9_init_279 : decode cX9_init 279 = .ok (.dup, 1) := by decide +kernel
theorem dX9_init_280 : decode cX9_init 280 = .ok (.bipush 37, 2) := by decide +kernel
theorem dX9_init_282 : decode cX9_init 282 = .ok (.bipush 111, 2) := by decide +kernel
theorem dX9_init_284 : decode cX9_init 284 = .ok (.iastore, 1) := by decide +kernel
theorem dX9_init_285 : decode cX9_init 285 = .ok (.dup, 1) := by decide +kernel
theorem dX9_init_286 : decode cX9_init 286 = .ok (.bipush 38, 2) := by decide +kernel
theorem dX9_init_288 : decode cX9_init 288 = .ok (.bipush 97, 2) := by decide +kernel
theorem dX9_init_290 : decode cX9_init 290 = .ok (.iastore, 1) := by decide +kernel
theorem dX9_init_291 : decode cX9_init 291 = .ok (.dup, 1) := by decide +kernel
theorem dX9_init_292 : decode cX9_init 292 = .ok (.bipush 39, 2) := by decide +kernel
theorem dX9_init_294 : decode cX9_init 294 = .ok (.bipush 100, 2) := by decide +kernel
theorem dX9_init_296 : decode cX9_init 296 = .ok (.iastore, 1) := by decide +kernel
theorem dX9_init_297 : decode cX9_init 297 = .ok (.dup, 1) := by decide +kernel
theorem dX9_init_298 : decode cX9_init 298 = .ok (.bipush 40, 2) := by decide +kernel
theorem dX9_init_300 : decode cX9_init 300 = .ok (.bipush 32, 2) := by decide +kernel
theorem dX9_init_302 : decode cX9_init 302 = .ok (.iastore, 1) := by decide +kernel
theorem dX9_init_303 : decode cX9_init 303 = .ok (.dup, 1) := by decide +kernel
theorem dX9_init_304 : decode cX9_init 304 = .ok (.bipush 41, 2) := by decide +kernel
theorem dX9_init_306 : decode cX9_init 306 = .ok (.bipush 32, 2) := by decide +kernel
theorem dX9_init_308 : decode cX9_init 308 = .ok (.iastore, 1) := by decide +kernel
theorem dX9_init_309 : decode cX9_init 309 = .ok (.dup, 1) := by decide +kernel
theorem dX9_init_310 : decode cX9_init 310 = .ok (.bipush 42, 2) := by decide +kernel
theorem dX9_init_312 : decode cX9_init 312 = .ok (.bipush 112, 2) := by decide +kernel
theorem dX9_init_314 : decode cX9_init 314 = .ok (.iastore, 1) := by decide +kernel
theorem dX9_init_315 : decode cX9_init 315 = .ok (.dup, 1) := by decide +kernel
theorem dX9_init_316 : decode cX9_init 316 = .ok (.bipush 43, 2) := by decide +kernel
theorem dX9_init_318 : decode cX9_init 318 = .ok (.bipush 111, 2) := by decide +kernel
theorem dX9_init_320 : decode cX9_init 320 = .ok (.iastore, 1) := by decide +kernel
theorem dX9_init_321 : decode cX9_init 321 = .ok (.dup, 1) := by decide +kernel
theorem dX9_init_322 : decode cX9_init 322 = .ok (.bipush 44, 2) := by decide +kernel
theorem dX9_init_324 : decode cX9_init 324 = .ok (.bipush 111, 2) := by decide +kernel
theorem dX9_init_326 : decode cX9_init 326 = .ok (.iastore, 1) := by decide +kernel
theorem dX9_init_327 : decode cX9_init 327 = .ok (.dup, 1) := by decide +kernel
theorem dX9_init_328 : decode cX9_init 328 = .ok (.bipush 45, 2) := by decide +kernel
theorem dX9_init_330 : decode cX9_init 330 = .ok (.bipush 108, 2) := by decide +kernel
theorem dX9_init_332 : decode cX9_init 332 = .ok (.iastore, 1) := by decide +kernel
theorem dX9_init_333 : decode cX9_init 333 = .ok (.dup, 1) := by decide +kernel
theorem dX9_init_334 : decode cX9_init 334 = .ok (.bipush 46, 2) := by decide +kernel
theorem dX9_init_336 : decode cX9_init 336 = .ok (.bipush 32, 2) := by decide +kernel
theorem dX9_init_338 : decode cX9_init 338 = .ok (.iastore, 1) := by decide +kernel
theorem dX9_init_339 : decode cX9_init 339 = .ok (.dup, 1) := by decide +kernel
theorem dX9_init_340 : decode cX9_init 340 = .ok (.bipush 47, 2) := by decide +kernel
theorem dX9_init_342 : decode cX9_init 342 = .ok (.bipush 32, 2) := by decide +kernel
theorem dX9_init_344 : decode cX9_init 344 = .ok (.iastore, 1) := by decide +kernel
theorem dX9_init_345 : decode cX9_init 345 = .ok (.putfield 33, 3) := by decide +kernel
theorem dX9_init_348 : decode cX9_init 348 = .ok (.aload_n 0, 1) := by decide +kernel
theorem dX9_init_349 : decode cX9_init 349 = .ok (.sipush 3000, 3) := by decide +kernel
theorem dX9_init_352 : decode cX9_init 352 = .ok (.newarray .boolean, 2) := by decide +kernel
theorem dX9_init_354 : decode cX9_init 354 = .ok (.putfield 36, 3) := by decide +kernel
theorem dX9_init_357 : decode cX9_init 357 = .ok (.aload_n 0, 1) := by decide +kernel
theorem dX9_init_358 : decode cX9_init 358 = .ok (.sipush 3000, 3) := by decide +kernel
theorem dX9_init_361 : decode cX9_init 361 = .ok (.newarray .boolean, 2) := by decide +kernel
theorem dX9_init_363 : decode cX9_init 363 = .ok (.putfield 40, 3) := by decide +kernel
theorem dX9_init_366 : decode cX9_init 366 = .ok (.aload_n 0, 1) := by decide +kernel
theorem dX9_init_367 : decode cX9_init 367 = .ok (.bipush 40, 2) := by decide +kernel
theorem dX9_init_369 : decode cX9_init 369 = .ok (.newarray .int, 2) := by decide +kernel
theorem dX9_init_371 : decode cX9_init 371 = .ok (.putfield 43, 3) := by decide +kernel
theorem dX9_init_374 : decode cX9_init 374 = .ok (.return_, 1) := by decide +kernel
theorem dX9_thrown_0 : decode cX9_thrown 0 = .ok (.aload_n 0, 1) := by decide +kernel
theorem dX9_thrown_1 : decode cX9_thrown 1 = .ok (.getfield 46, 3) := by decide +kernel
theorem dX9_thrown_4 : decode cX9_thrown 4 = .ok (.ireturn, 1) := by decide +kernel
theorem dX9_in_0 : decode cX9_in 0 = .ok (.iload_n 0, 1) := by decide +kernel
theorem dX9_in_1 : decode cX9_in 1 = .ok (.iload_n 1, 1) := by decide +kernel
theorem dX9_in_2 : decode cX9_in 2 = .ok (.if_icmp .lt 12, 3) := by decide +kernel
theorem dX9_in_5 : decode cX9_in 5 = .ok (.iload_n 0, 1) := by decide +kernel
theorem dX9_in_6 : decode cX9_in 6 = .ok (.iload_n 2, 1) := by decide +kernel
theorem dX9_in_7 : decode cX9_in 7 = .ok (.if_icmp .gt 7, 3) := by decide +kernel
theorem dX9_in_10 : decode cX9_in 10 = .ok (.iconst 1, 1) := by decide +kernel
theorem dX9_in_11 : decode cX9_in 11 = .ok (.goto 4, 3) := by decide +kernel
theorem dX9_in_14 : decode cX9_in 14 = .ok (.iconst 0, 1) := by decide +kernel
theorem dX9_in_15 : decode cX9_in 15 = .ok (.ireturn, 1) := by decide +kernel
theorem dX9_fails_0 : decode cX9_fails 0 = .ok (.aload_n 0, 1) := by decide +kernel
theorem dX9_fails_1 : decode cX9_fails 1 = .ok (.iload_n 1, 1) := by decide +kernel
theorem dX9_fails_2 : decode cX9_fails 2 = .ok (.putfield 46, 3) := by decide +kernel
theorem dX9_fails_5 : decode cX9_fails 5 = .ok (.iconst 0, 1) := by decide +kernel
theorem dX9_fails_6 : decode cX9_fails 6 = .ok (.ireturn, 1) := by decide +kernel
theorem dX9_done_0 : decode cX9_done 0 = .ok (.aload_n 0, 1) := by decide +kernel
theorem dX9_done_1 : decode cX9_done 1 = .ok (.iconst 0, 1) := by decide +kernel
theorem dX9_done_2 : decode cX9_done 2 = .ok (.putfield 46, 3) := by decide +kernel
theorem dX9_done_5 : decode cX9_done 5 = .ok (.iload_n 1, 1) := by decide +kernel
theorem dX9_done_6 : decode cX9_done 6 = .ok (.ireturn, 1) := by decide +kernel
theorem dX9_kind_0 : decode cX9_kind 0 = .ok (.aload_n 0, 1) := by decide +kernel
theorem dX9_kind_1 : decode cX9_kind 1 = .ok (.getfield 7, 3) := by decide +kernel
theorem dX9_kind_4 : decode cX9_kind 4 = .ok (.iconst 1, 1) := by decide +kernel
theorem dX9_kind_5 : decode cX9_kind 5 = .ok (.iload_n 1, 1) := by decide +kernel
theorem dX9_kind_6 : decode cX9_kind 6 = .ok (.iadd, 1) := by decide +kernel
theorem dX9_kind_7 : decode cX9_kind 7 = .ok (.iaload, 1) := by decide +kernel
theorem dX9_kind_8 : decode cX9_kind 8 = .ok (.ireturn, 1) := by decide +kernel
theorem dX9_operand_0 : decode cX9_operand 0 = .ok (.aload_n 0, 1) := by decide +kernel
theorem dX9_operand_1 : decode cX9_operand 1 = .ok (.getfield 7, 3) := by decide +kernel
theorem dX9_operand_4 : decode cX9_operand 4 = .ok (.bipush 41, 2) := by decide +kernel
theorem dX9_operand_6 : decode cX9_operand 6 = .ok (.iload_n 1, 1) := by decide +kernel
theorem dX9_operand_7 : decode cX9_operand 7 = .ok (.iadd, 1) := by decide +kernel
theorem dX9_operand_8 : decode cX9_operand 8 = .ok (.iaload, 1) := by decide +kernel
theorem dX9_operand_9 : decode cX9_operand 9 = .ok (.ireturn, 1) := by decide +kernel
theorem dX9_form_0 : decode cX9_form 0 = .ok (.aload_n 0, 1) := by decide +kernel
theorem dX9_form_1 : decode cX9_form 1 = .ok (.getfield 7, 3) := by decide +kernel
theorem dX9_form_4 : decode cX9_form 4 = .ok (.bipush 81, 2) := by decide +kernel
theorem dX9_form_6 : decode cX9_form 6 = .ok (.iload_n 1, 1) := by decide +kernel
theorem dX9_form_7 : decode cX9_form 7 = .ok (.iadd, 1) := by decide +kernel
theorem dX9_form_8 : decode cX9_form 8 = .ok (.iaload, 1) := by decide +kernel
theorem dX9_form_9 : decode cX9_form 9 = .ok (.ireturn, 1) := by decide +kernel
theorem dX9_forms_0 : decode cX9_forms 0 = .ok (.aload_n 0, 1) := by decide +kernel
theorem dX9_forms_1 : decode cX9_forms 1 = .ok (.getfield 7, 3) := by decide +kernel
theorem dX9_forms_4 : decode cX9_forms 4 = .ok (.bipush 81, 2) := by decide +kernel
theorem dX9_forms_6 : decode cX9_forms 6 = .ok (.iload_n 1, 1) := by decide +kernel
theorem dX9_forms_7 : decode cX9_forms 7 = .ok (.iadd, 1) := by decide +kernel
theorem dX9_forms_8 : decode cX9_forms 8 = .ok (.iload_n 2, 1) := by decide +kernel
theorem dX9_forms_9 : decode cX9_forms 9 = .ok (.iastore, 1) := by decide +kernel
theorem dX9_forms_10 : decode cX9_forms 10 = .ok (.return_, 1) := by decide +kernel
theorem dX9_isItem_0 : decode cX9_isItem 0 = .ok (.iload_n 1, 1) := by decide +kernel
theorem dX9_isItem_1 : decode cX9_isItem 1 = .ok (.iconst 0, 1) := by decide +kernel
theorem dX9_isItem_2 : decode cX9_isItem 2 = .ok (.aload_n 0, 1) := by decide +kernel
theorem dX9_isItem_3 : decode cX9_isItem 3 = .ok (.getfield 7, 3) := by decide +kernel
theorem dX9_isItem_6 : decode cX9_isItem 6 = .ok (.iconst 0, 1) := by decide +kernel
theorem dX9_isItem_7 : decode cX9_isItem 7 = .ok (.iaload, 1) := by decide +kernel
theorem dX9_isItem_8 : decode cX9_isItem 8 = .ok (.iconst 1, 1) := by decide +kernel
theorem dX9_isItem_9 : decode cX9_isItem 9 = .ok (.isub, 1) := by decide +kernel
theorem dX9_isItem_10 : decode cX9_isItem 10 = .ok (.invokestatic 49, 3) := by decide +kernel
theorem dX9_isItem_13 : decode cX9_isItem 13 = .ok (.ireturn, 1) := by decide +kernel
theorem dX9_isTransfer_0 : decode cX9_isTransfer 0 = .ok (.aload_n 0, 1) := by decide +kernel
theorem dX9_isTransfer_1 : decode cX9_isTransfer 1 = .ok (.iload_n 1, 1) := by decide +kernel
theorem dX9_isTransfer_2 : decode cX9_isTransfer 2 = .ok (.invokevirtual 53, 3) := by decide +kernel
theorem dX9_isTransfer_5 : decode cX9_isTransfer 5 = .ok (.iconst 4, 1) := by decide +kernel
theorem dX9_isTransfer_6 : decode cX9_isTransfer 6 = .ok (.iconst 5, 1) := by decide +kernel
theorem dX9_isTransfer_7 : decode cX9_isTransfer 7 = .ok (.invokestatic 49, 3) := by decide +kernel
theorem dX9_isTransfer_10 : decode cX9_isTransfer 10 = .ok (.ireturn, 1) := by decide +kernel
theorem dX9_remembers_0 : decode cX9_remembers 0 = .ok (.aload_n 0, 1) := by decide +kernel
theorem dX9_remembers_1 : decode cX9_remembers 1 = .ok (.getfield 57, 3) := by decide +kernel
theorem dX9_remembers_4 : decode cX9_remembers 4 = .ok (.bipush 10, 2) := by decide +kernel
theorem dX9_remembers_6 : decode cX9_remembers 6 = .ok (.if_icmp .ne 43, 3) := by decide +kernel
theorem dX9_remembers_9 : decode cX9_remembers 9 = .ok (.iconst 0, 1) := by decide +kernel
theorem dX9_remembers_10 : decode cX9_remembers 10 = .ok (.istore_n 1, 1) := by decide +kernel
theorem dX9_remembers_11 : decode cX9_remembers 11 = .ok (.iload_n 1, 1) := by decide +kernel
theorem dX9_remembers_12 : decode cX9_remembers 12 = .ok (.sipush 1089, 3) := by decide +kernel
theorem dX9_remembers_15 : decode cX9_remembers 15 = .ok (.if_icmp .ge 24, 3) := by decide +kernel
theorem dX9_remembers_18 : decode cX9_remembers 18 = .ok (.aload_n 0, 1) := by decide +kernel
theorem dX9_remembers_19 : decode cX9_remembers 19 = .ok (.getfield 13, 3) := by decide +kernel
theorem dX9_remembers_22 : decode cX9_remembers 22 = .ok (.iload_n 1, 1) := by decide +kernel
theorem dX9_remembers_23 : decode cX9_remembers 23 = .ok (.aload_n 0, 1) := by decide +kernel
theorem dX9_remembers_24 : decode cX9_remembers 24 = .ok (.getfield 13, 3) := by decide +kernel
theorem dX9_remembers_27 : decode cX9_remembers 27 = .ok (.iload_n 1, 1) := by decide +kernel
theorem dX9_remembers_28 : decode cX9_remembers 28 = .ok (.bipush 121, 2) := by decide +kernel
theorem dX9_remembers_30 : decode cX9_remembers 30 = .ok (.iadd, 1) := by decide +kernel
theorem dX9_remembers_31 : decode cX9_remembers 31 = .ok (.iaload, 1) := by decide +kernel
theorem dX9_remembers_32 : decode cX9_remembers 32 = .ok (.iastore, 1) := by decide +kernel
theorem dX9_remembers_33 : decode cX9_remembers 33 = .ok (.iinc 1 1, 3) := by decide +kernel
theorem dX9_remembers_36 : decode cX9_remembers 36 = .ok (.goto (-25), 3) := by decide +kernel
theorem dX9_remembers_39 : decode cX9_remembers 39 = .ok (.aload_n 0, 1) := by decide +kernel
theorem dX9_remembers_40 : decode cX9_remembers 40 = .ok (.dup, 1) := by decide +kernel
theorem dX9_remembers_41 : decode cX9_remembers 41 = .ok (.getfield 57, 3) := by decide +kernel
theorem dX9_remembers_44 : decode cX9_remembers 44 = .ok (.iconst 1, 1) := by decide +kernel
theorem dX9_remembers_45 : decode cX9_remembers 45 = .ok (.isub, 1) := by decide +kernel
theorem dX9_remembers_46 : decode cX9_remembers 46 = .ok (.putfield 57, 3) := by decide +kernel
theorem dX9_remembers_49 : decode cX9_remembers 49 = .ok (.iconst 0, 1) := by decide +kernel
theorem dX9_remembers_50 : decode cX9_remembers 50 = .ok (.istore_n 1, 1) := by decide +kernel
theorem dX9_remembers_51 : decode cX9_remembers 51 = .ok (.iload_n 1, 1) := by decide +kernel
theorem dX9_remembers_52 : decode cX9_remembers 52 = .ok (.bipush 121, 2) := by decide +kernel
theorem dX9_remembers_54 : decode cX9_remembers 54 = .ok (.if_icmp .ge 29, 3) := by decide +kernel
theorem dX9_remembers_57 : decode cX9_remembers 57 = .ok (.aload_n 0, 1) := by decide +kernel
theorem dX9_remembers_58 : decode cX9_remembers 58 = .ok (.getfield 13, 3) := by decide +kernel
theorem dX9_remembers_61 : decode cX9_remembers 61 = .ok (.bipush 121, 2) := by decide +kernel
theorem dX9_remembers_63 : decode cX9_remembers 63 = .ok (.aload_n 0, 1) := by decide +kernel
theorem dX9_remembers_64 : decode cX9_remembers 64 = .ok (.getfield 57, 3) := by decide +kernel
theorem dX9_remembers_67 : decode cX9_remembers 67 = .ok (.imul, 1) := by decide +kernel
theorem dX9_remembers_68 : decode cX9_remembers 68 = .ok (.iload_n 1, 1) := by decide +kernel
theorem dX9_remembers_69 : decode cX9_remembers 69 = .ok (.iadd, 1) := by decide +kernel
theorem dX9_remembers_70 : decode cX9_remembers 70 = .ok (.aload_n 0, 1) := by decide +kernel
theorem dX9_remembers_71 : decode cX9_remembers 71 = .ok (.getfield 7, 3) := by decide +kernel
theorem dX9_remembers_74 : decode cX9_remembers 74 = .ok (.iload_n 1, 1) := by decide +kernel
theorem dX9_remembers_75 : decode cX9_remembers 75 = .ok (.iaload, 1) := by decide +kernel
theorem dX9_remembers_76 : decode cX9_remembers 76 = .ok (.iastore, 1) := by decide +kernel
theorem dX9_remembers_77 : decode cX9_remembers 77 = .ok (.iinc 1 1, 3) := by decide +kernel
theorem dX9_remembers_80 : decode cX9_remembers 80 = .ok (.goto (-29), 3) := by decide +kernel
theorem dX9_remembers_83 : decode cX9_remembers 83 = .ok (.aload_n 0, 1) := by decide +kernel
theorem dX9_remembers_84 : decode cX9_remembers 84 = .ok (.dup, 1) := by decide +kernel
theorem dX9_remembers_85 : decode cX9_remembers 85 = .ok (.getfield 57, 3) := by decide +kernel
theorem dX9_remembers_88 : decode cX9_remembers 88 = .ok (.iconst 1, 1) := by decide +kernel
theorem dX9_remembers_89 : decode cX9_remembers 89 = .ok (.iadd, 1) := by decide +kernel
theorem dX9_remembers_90 : decode cX9_remembers 90 = .ok (.putfield 57, 3) := by decide +kernel
theorem dX9_remembers_93 : decode cX9_remembers 93 = .ok (.return_, 1) := by decide +kernel
theorem dX9_tellValues_0 : decode cX9_tellValues 0 = .ok (.iload_n 1, 1) := by decide +kernel
theorem dX9_tellValues_1 : decode cX9_tellValues 1 = .ok (.istore_n 2, 1) := by decide +kernel
theorem dX9_tellValues_2 : decode cX9_tellValues 2 = .ok (.iload_n 2, 1) := by decide +kernel
theorem dX9_tellValues_3 : decode cX9_tellValues 3 = .ok (.ifCond .le 21, 3) := by decide +kernel
theorem dX9_tellValues_6 : decode cX9_tellValues 6 = .ok (.aload_n 0, 1) := by decide +kernel
theorem dX9_tellValues_7 : decode cX9_tellValues 7 = .ok (.iload_n 2, 1) := by decide +kernel
theorem dX9_tellValues_8 : decode cX9_tellValues 8 = .ok (.iconst 1, 1) := by decide +kernel
theorem dX9_tellValues_9 : decode cX9_tellValues 9 = .ok (.isub, 1) := by decide +kernel
theorem dX9_tellValues_10 : decode cX9_tellValues 10 = .ok (.invokevirtual 53, 3) := by decide +kernel
theorem dX9_tellValues_13 : decode cX9_tellValues 13 = .ok (.bipush 7, 2) := by decide +kernel
theorem dX9_tellValues_15 : decode cX9_tellValues 15 = .ok (.if_icmp .eq 9, 3) := by decide +kernel
theorem dX9_tellValues_18 : decode cX9_tellValues 18 = .ok (.iinc 2 (-1), 3) := by decide +kernel
theorem dX9_tellValues_21 : decode cX9_tellValues 21 = .ok (.goto (-19), 3) := by decide +kernel
theorem dX9_tellValues_24 : decode cX9_tellValues 24 = .ok (.aload_n 0, 1) := by decide +kernel
theorem dX9_tellValues_25 : decode cX9_tellValues 25 = .ok (.iconst 0, 1) := by decide +kernel
theorem dX9_tellValues_26 : decode cX9_tellValues 26 = .ok (.putfield 60, 3) := by decide +kernel
theorem dX9_tellValues_29 : decode cX9_tellValues 29 = .ok (.iload_n 2, 1) := by decide +kernel
theorem dX9_tellValues_30 : decode cX9_tellValues 30 = .ok (.istore_n 3, 1) := by decide +kernel
theorem dX9_tellValues_31 : decode cX9_tellValues 31 = .ok (.iload_n 3, 1) := by decide +kernel
theorem dX9_tellValues_32 : decode cX9_tellValues 32 = .ok (.iload_n 1, 1) := by decide +kernel
theorem dX9_tellValues_33 : decode cX9_tellValues 33 = .ok (.if_icmp .ge 56, 3) := by decide +kernel
theorem dX9_tellValues_36 : decode cX9_tellValues 36 = .ok (.aload_n 0, 1) := by decide +kernel
theorem dX9_tellValues_37 : decode cX9_tellValues 37 = .ok (.iload_n 3, 1) := by decide +kernel
theorem dX9_tellValues_38 : decode cX9_tellValues 38 = .ok (.invokevirtual 53, 3) := by decide +kernel
theorem dX9_tellValues_41 : decode cX9_tellValues 41 = .ok (.bipush 6, 2) := by decide +kernel
theorem dX9_tellValues_43 : decode cX9_tellValues 43 = .ok (.if_icmp .ne 40, 3) := by decide +kernel
theorem dX9_tellValues_46 : decode cX9_tellValues 46 = .ok (.aload_n 0, 1) := by decide +kernel
theorem dX9_tellValues_47 : decode cX9_tellValues 47 = .ok (.aload_n 0, 1) := by decide +kernel
theorem dX9_tellValues_48 : decode cX9_tellValues 48 = .ok (.iload_n 3, 1) := by decide +kernel
theorem dX9_tellValues_49 : decode cX9_tellValues 49 = .ok (.invokevirtual 63, 3) := by decide +kernel
theorem dX9_tellValues_52 : decode cX9_tellValues 52 = .ok (.invokevirtual 66, 3) := by decide +kernel
theorem dX9_tellValues_55 : decode cX9_tellValues 55 = .ok (.iconst (-1), 1) := by decide +kernel
theorem dX9_tellValues_56 : decode cX9_tellValues 56 = .ok (.if_icmp .ne 27, 3) := by decide +kernel
theorem dX9_tellValues_59 : decode cX9_tellValues 59 = .ok (.aload_n 0, 1) := by decide +kernel
theorem dX9_tellValues_60 : decode cX9_tellValues 60 = .ok (.getfield 30, 3) := by decide +kernel
theorem dX9_tellValues_63 : decode cX9_tellValues 63 = .ok (.aload_n 0, 1) := by decide +kernel
theorem dX9_tellValues_64 : decode cX9_tellValues 64 = .ok (.getfield 60, 3) := by decide +kernel
theorem dX9_tellValues_67 : decode cX9_tellValues 67 = .ok (.aload_n 0, 1) := by decide +kernel
theorem dX9_tellValues_68 : decode cX9_tellValues 68 = .ok (.iload_n 3, 1) := by decide +kernel
theorem dX9_tellValues_69 : decode cX9_tellValues 69 = .ok (.invokevirtual 63, 3) := by decide +kernel
theorem dX9_tellValues_72 : decode cX9_tellValues 72 = .ok (.iastore, 1) := by decide +kernel
theorem dX9_tellValues_73 : decode cX9_tellValues 73 = .ok (.aload_n 0, 1) := by decide +kernel
theorem dX9_tellValues_74 : decode cX9_tellValues 74 = .ok (.dup, 1) := by decide +kernel
theorem dX9_tellValues_75 : decode cX9_tellValues 75 = .ok (.getfield 60, 3) := by decide +kernel
theorem dX9_tellValues_78 : decode cX9_tellValues 78 = .ok (.iconst 1, 1) := by decide +kernel
theorem dX9_tellValues_79 : decode cX9_tellValues 79 = .ok (.iadd, 1) := by decide +kernel
theorem dX9_tellValues_80 : decode cX9_tellValues 80 = .ok (.putfield 60, 3) := by decide +kernel
theorem dX9_tellValues_83 : decode cX9_tellValues 83 = .ok (.iinc 3 1, 3) := by decide +kernel
theorem dX9_tellValues_86 : decode cX9_tellValues 86 = .ok (.goto (-55), 3) := by decide +kernel
theorem dX9_tellValues_89 : decode cX9_tellValues 89 = .ok (.return_, 1) := by decide +kernel
theorem dX9_valueAt_0 : decode cX9_valueAt 0 = .ok (.iconst 0, 1) := by decide +kernel
theorem dX9_valueAt_1 : decode cX9_valueAt 1 = .ok (.istore_n 2, 1) := by decide +kernel
theorem dX9_valueAt_2 : decode cX9_valueAt 2 = .ok (.iload_n 2, 1) := by decide +kernel
theorem dX9_valueAt_3 : decode cX9_valueAt 3 = .ok (.aload_n 0, 1) := by decide +kernel
theorem dX9_valueAt_4 : decode cX9_valueAt 4 = .ok (.getfield 60, 3) := by decide +kernel
theorem dX9_valueAt_7 : decode cX9_valueAt 7 = .ok (.if_icmp .ge 21, 3) := by decide +kernel
theorem dX9_valueAt_10 : decode cX9_valueAt 10 = .ok (.aload_n 0, 1) := by decide +kernel
theorem dX9_valueAt_11 : decode cX9_valueAt 11 = .ok (.getfield 30, 3) := by decide +kernel
theorem dX9_valueAt_14 : decode cX9_valueAt 14 = .ok (.iload_n 2, 1) := by decide +kernel
theorem dX9_valueAt_15 : decode cX9_valueAt 15 = .ok (.iaload, 1) := by decide +kernel
theorem dX9_valueAt_16 : decode cX9_valueAt 16 = .ok (.iload_n 1, 1) := by decide +kernel
theorem dX9_valueAt_17 : decode cX9_valueAt 17 = .ok (.if_icmp .ne 5, 3) := by decide +kernel
theorem dX9_valueAt_20 : decode cX9_valueAt 20 = .ok (.iload_n 2, 1) := by decide +kernel
theorem dX9_valueAt_21 : decode cX9_valueAt 21 = .ok (.ireturn, 1) := by decide +kernel
theorem dX9_valueAt_22 : decode cX9_valueAt 22 = .ok (.iinc 2 1, 3) := by decide +kernel
theorem dX9_valueAt_25 : decode cX9_valueAt 25 = .ok (.goto (-23), 3) := by decide +kernel
theorem dX9_valueAt_28 : decode cX9_valueAt 28 = .ok (.iconst (-1), 1) := by decide +kernel
theorem dX9_valueAt_29 : decode cX9_valueAt 29 = .ok (.ireturn, 1) := by decide +kernel
theorem dX9_upTo_0 : decode cX9_upTo 0 = .ok (.iload_n 0, 1) := by decide +kernel
theorem dX9_upTo_1 : decode cX9_upTo 1 = .ok (.iload_n 1, 1) := by decide +kernel
theorem dX9_upTo_2 : decode cX9_upTo 2 = .ok (.iadd, 1) := by decide +kernel
theorem dX9_upTo_3 : decode cX9_upTo 3 = .ok (.iconst 1, 1) := by decide +kernel
theorem dX9_upTo_4 : decode cX9_upTo 4 = .ok (.isub, 1) := by decide +kernel
theorem dX9_upTo_5 : decode cX9_upTo 5 = .ok (.iload_n 1, 1) := by decide +kernel
theorem dX9_upTo_6 : decode cX9_upTo 6 = .ok (.idiv, 1) := by decide +kernel
theorem dX9_upTo_7 : decode cX9_upTo 7 = .ok (.iload_n 1, 1) := by decide +kernel
theorem dX9_upTo_8 : decode cX9_upTo 8 = .ok (.imul, 1) := by decide +kernel
theorem dX9_upTo_9 : decode cX9_upTo 9 = .ok (.ireturn, 1) := by decide +kernel
theorem dX9_poolSize_0 : decode cX9_poolSize 0 = .ok (.aload_n 0, 1) := by decide +kernel
theorem dX9_poolSize_1 : decode cX9_poolSize 1 = .ok (.iload_n 1, 1) := by decide +kernel
theorem dX9_poolSize_2 : decode cX9_poolSize 2 = .ok (.invokevirtual 69, 3) := by decide +kernel
theorem dX9_poolSize_5 : decode cX9_poolSize 5 = .ok (.aload_n 0, 1) := by decide +kernel
theorem dX9_poolSize_6 : decode cX9_poolSize 6 = .ok (.getfield 60, 3) := by decide +kernel
theorem dX9_poolSize_9 : decode cX9_poolSize 9 = .ok (.ifCond .ne 7, 3) := by decide +kernel
theorem dX9_poolSize_12 : decode cX9_poolSize 12 = .ok (.iconst 0, 1) := by decide +kernel
theorem dX9_poolSize_13 : decode cX9_poolSize 13 = .ok (.goto 17, 3) := by decide +kernel
theorem dX9_poolSize_16 : decode cX9_poolSize 16 = .ok (.iload_n 2, 1) := by decide +kernel
theorem dX9_poolSize_17 : decode cX9_poolSize 17 = .ok (.iconst 4, 1) := by decide +kernel
theorem dX9_poolSize_18 : decode cX9_poolSize 18 = .ok (.invokestatic 73, 3) := by decide +kernel
theorem dX9_poolSize_21 : decode cX9_poolSize 21 = .ok (.iload_n 2, 1) := by decide +kernel
theorem dX9_poolSize_22 : decode cX9_poolSize 22 = .ok (.isub, 1) := by decide +kernel
theorem dX9_poolSize_23 : decode cX9_poolSize 23 = .ok (.iconst 4, 1) := by decide +kernel
theorem dX9_poolSize_24 : decode cX9_poolSize 24 = .ok (.aload_n 0, 1) := by decide +kernel
theorem dX9_poolSize_25 : decode cX9_poolSize 25 = .ok (.getfield 60, 3) := by decide +kernel
theorem dX9_poolSize_28 : decode cX9_poolSize 28 = .ok (.imul, 1) := by decide +kernel
theorem dX9_poolSize_29 : decode cX9_poolSize 29 = .ok (.iadd, 1) := by decide +kernel
theorem dX9_poolSize_30 : decode cX9_poolSize 30 = .ok (.ireturn, 1) := by decide +kernel
theorem dX9_transferSize_0 : decode cX9_transferSize 0 = .ok (.iload_n 1, 1) := by decide +kernel
theorem dX9_transferSize_1 : decode cX9_transferSize 1 = .ok (.ifCond .ne 7, 3) := by decide +kernel
theorem dX9_transferSize_4 : decode cX9_transferSize 4 = .ok (.iconst 2, 1) := by decide +kernel
theorem dX9_transferSize_5 : decode cX9_transferSize 5 = .ok (.goto 32, 3) := by decide +kernel
theorem dX9_transferSize_8 : decode cX9_transferSize 8 = .ok (.iload_n 0, 1) := by decide +kernel
theorem dX9_transferSize_9 : decode cX9_transferSize 9 = .ok (.iconst 4, 1) := by decide +kernel
theorem dX9_transferSize_10 : decode cX9_transferSize 10 = .ok (.if_icmp .ne 16, 3) := by decide +kernel
theorem dX9_transferSize_13 : decode cX9_transferSize 13 = .ok (.iload_n 1, 1) := by decide +kernel
theorem dX9_transferSize_14 : decode cX9_transferSize 14 = .ok (.iconst 1, 1) := by decide +kernel
theorem dX9_transferSize_15 : decode cX9_transferSize 15 = .ok (.if_icmp .ne 7, 3) := by decide +kernel
theorem dX9_transferSize_18 : decode cX9_transferSize 18 = .ok (.iconst 3, 1) := by decide +kernel
theorem dX9_transferSize_19 : decode cX9_transferSize 19 = .ok (.goto 18, 3) := by decide +kernel
theorem dX9_transferSize_22 : decode cX9_transferSize 22 = .ok (.iconst 5, 1) := by decide +kernel
theorem dX9_transferSize_23 : decode cX9_transferSize 23 = .ok (.goto 14, 3) := by decide +kernel
theorem dX9_transferSize_26 : decode cX9_transferSize 26 = .ok (.iload_n 1, 1) := by decide +kernel
theorem dX9_transferSize_27 : decode cX9_transferSize 27 = .ok (.iconst 1, 1) := by decide +kernel
theorem dX9_transferSize_28 : decode cX9_transferSize 28 = .ok (.if_icmp .ne 7, 3) := by decide +kernel
theorem dX9_transferSize_31 : decode cX9_transferSize 31 = .ok (.iconst 4, 1) := by decide +kernel
theorem dX9_transferSize_32 : decode cX9_transferSize 32 = .ok (.goto 5, 3) := by decide +kernel
theorem dX9_transferSize_35 : decode cX9_transferSize 35 = .ok (.bipush 7, 2) := by decide +kernel
theorem dX9_transferSize_37 : decode cX9_transferSize 37 = .ok (.ireturn, 1) := by decide +kernel
theorem dX9_sizeAt_0 : decode cX9_sizeAt 0 = .ok (.aload_n 0, 1) := by decide +kernel
theorem dX9_sizeAt_1 : decode cX9_sizeAt 1 = .ok (.iload_n 1, 1) := by decide +kernel
theorem dX9_sizeAt_2 : decode cX9_sizeAt 2 = .ok (.invokevirtual 53, 3) := by decide +kernel
theorem dX9_sizeAt_5 : decode cX9_sizeAt 5 = .ok (.tableswitch 86 0 7 #[47, 47, 86, 53, 67, 67, 77, 79], 47) := by decide +kernel
theorem dX9_sizeAt_52 : decode cX9_sizeAt 52 = .ok (.aload_n 0, 1) := by decide +kernel
theorem dX9_sizeAt_53 : decode cX9_sizeAt 53 = .ok (.iload_n 1, 1) := by decide +kernel
theorem dX9_sizeAt_54 : decode cX9_sizeAt 54 = .ok (.invokevirtual 63, 3) := by decide +kernel
theorem dX9_sizeAt_57 : decode cX9_sizeAt 57 = .ok (.ireturn, 1) := by decide +kernel
theorem dX9_sizeAt_58 : decode cX9_sizeAt 58 = .ok (.iload_n 2, 1) := by decide +kernel
theorem dX9_sizeAt_59 : decode cX9_sizeAt 59 = .ok (.iconst 1, 1) := by decide +kernel
theorem dX9_sizeAt_60 : decode cX9_sizeAt 60 = .ok (.aload_n 0, 1) := by decide +kernel
theorem dX9_sizeAt_61 : decode cX9_sizeAt 61 = .ok (.iload_n 1, 1) := by decide +kernel
theorem dX9_sizeAt_62 : decode cX9_sizeAt 62 = .ok (.invokevirtual 63, 3) := by decide +kernel
theorem dX9_sizeAt_65 : decode cX9_sizeAt 65 = .ok (.ishl, 1) := by decide +kernel
theorem dX9_sizeAt_66 : decode cX9_sizeAt 66 = .ok (.invokestatic 73, 3) := by decide +kernel
theorem dX9_sizeAt_69 : decode cX9_sizeAt 69 = .ok (.iload_n 2, 1) := by decide +kernel
theorem dX9_sizeAt_70 : decode cX9_sizeAt 70 = .ok (.isub, 1) := by decide +kernel
theorem dX9_sizeAt_71 : decode cX9_sizeAt 71 = .ok (.ireturn, 1) := by decide +kernel
theorem dX9_sizeAt_72 : decode cX9_sizeAt 72 = .ok (.aload_n 0, 1) := by decide +kernel
theorem dX9_sizeAt_73 : decode cX9_sizeAt 73 = .ok (.iload_n 1, 1) := by decide +kernel
theorem dX9_sizeAt_74 : decode cX9_sizeAt 74 = .ok (.invokevirtual 53, 3) := by decide +kernel
theorem dX9_sizeAt_77 : decode cX9_sizeAt 77 = .ok (.iload_n 3, 1) := by decide +kernel
theorem dX9_sizeAt_78 : decode cX9_sizeAt 78 = .ok (.invokestatic 77, 3) := by decide +kernel
theorem dX9_sizeAt_81 : decode cX9_sizeAt 81 = .ok (.ireturn, 1) := by decide +kernel
theorem dX9_sizeAt_82 : decode cX9_sizeAt 82 = .ok (.iconst 2, 1) := by decide +kernel
theorem dX9_sizeAt_83 : decode cX9_sizeAt 83 = .ok (.ireturn, 1) := by decide +kernel
theorem dX9_sizeAt_84 : decode cX9_sizeAt 84 = .ok (.aload_n 0, 1) := by decide +kernel
theorem dX9_sizeAt_85 : decode cX9_sizeAt 85 = .ok (.iload_n 1, 1) := by decide +kernel
theorem dX9_sizeAt_86 : decode cX9_sizeAt 86 = .ok (.iload_n 2, 1) := by decide +kernel
theorem dX9_sizeAt_87 : decode cX9_sizeAt 87 = .ok (.invokevirtual 80, 3) := by decide +kernel
theorem dX9_sizeAt_90 : decode cX9_sizeAt 90 = .ok (.ireturn, 1) := by decide +kernel
theorem dX9_sizeAt_91 : decode cX9_sizeAt 91 = .ok (.iconst 0, 1) := by decide +kernel
theorem dX9_sizeAt_92 : decode cX9_sizeAt 92 = .ok (.ireturn, 1) := by decide +kernel
theorem dX9_lays_0 : decode cX9_lays 0 = .ok (.iconst 0, 1) := by decide +kernel
theorem dX9_lays_1 : decode cX9_lays 1 = .ok (.istore_n 1, 1) := by decide +kernel
theorem dX9_lays_2 : decode cX9_lays 2 = .ok (.iconst 0, 1) := by decide +kernel
theorem dX9_lays_3 : decode cX9_lays 3 = .ok (.istore_n 2, 1) := by decide +kernel
theorem dX9_lays_4 : decode cX9_lays 4 = .ok (.iload_n 2, 1) := by decide +kernel
theorem dX9_lays_5 : decode cX9_lays 5 = .ok (.aload_n 0, 1) := by decide +kernel
theorem dX9_lays_6 : decode cX9_lays 6 = .ok (.getfield 7, 3) := by decide +kernel
theorem dX9_lays_9 : decode cX9_lays 9 = .ok (.iconst 0, 1) := by decide +kernel
theorem dX9_lays_10 : decode cX9_lays 10 = .ok (.iaload, 1) := by decide +kernel
theorem dX9_lays_11 : decode cX9_lays 11 = .ok (.if_icmp .ge 30, 3) := by decide +kernel
theorem dX9_lays_14 : decode cX9_lays 14 = .ok (.aload_n 0, 1) := by decide +kernel
theorem dX9_lays_15 : decode cX9_lays 15 = .ok (.getfield 27, 3) := by decide +kernel
theorem dX9_lays_18 : decode cX9_lays 18 = .ok (.iload_n 2, 1) := by decide +kernel
theorem dX9_lays_19 : decode cX9_lays 19 = .ok (.iload_n 1, 1) := by decide +kernel
theorem dX9_lays_20 : decode cX9_lays 20 = .ok (.iastore, 1) := by decide +kernel
theorem dX9_lays_21 : decode cX9_lays 21 = .ok (.iload_n 1, 1) := by decide +kernel
theorem dX9_lays_22 : decode cX9_lays 22 = .ok (.aload_n 0, 1) := by decide +kernel
theorem dX9_lays_23 : decode cX9_lays 23 = .ok (.iload_n 2, 1) := by decide +kernel
theorem dX9_lays_24 : decode cX9_lays 24 = .ok (.iload_n 1, 1) := by decide +kernel
theorem dX9_lays_25 : decode cX9_lays 25 = .ok (.aload_n 0, 1) := by decide +kernel
theorem dX9_lays_26 : decode cX9_lays 26 = .ok (.iload_n 2, 1) := by decide +kernel
theorem dX9_lays_27 : decode cX9_lays 27 = .ok (.invokevirtual 83, 3) := by decide +kernel
theorem dX9_lays_30 : decode cX9_lays 30 = .ok (.invokevirtual 86, 3) := by decide +kernel
theorem dX9_lays_33 : decode cX9_lays 33 = .ok (.iadd, 1) := by decide +kernel
theorem dX9_lays_34 : decode cX9_lays 34 = .ok (.istore_n 1, 1) := by decide +kernel
theorem dX9_lays_35 : decode cX9_lays 35 = .ok (.iinc 2 1, 3) := by decide +kernel
theorem dX9_lays_38 : decode cX9_lays 38 = .ok (.goto (-34), 3) := by decide +kernel
theorem dX9_lays_41 : decode cX9_lays 41 = .ok (.aload_n 0, 1) := by decide +kernel
theorem dX9_lays_42 : decode cX9_lays 42 = .ok (.getfield 27, 3) := by decide +kernel
theorem dX9_lays_45 : decode cX9_lays 45 = .ok (.aload_n 0, 1) := by decide +kernel
theorem dX9_lays_46 : decode cX9_lays 46 = .ok (.getfield 7, 3) := by decide +kernel
theorem dX9_lays_49 : decode cX9_lays 49 = .ok (.iconst 0, 1) := by decide +kernel
theorem dX9_lays_50 : decode cX9_lays 50 = .ok (.iaload, 1) := by decide +kernel
theorem dX9_lays_51 : decode cX9_lays 51 = .ok (.iload_n 1, 1) := by decide +kernel
theorem dX9_lays_52 : decode cX9_lays 52 = .ok (.iastore, 1) := by decide +kernel
theorem dX9_lays_53 : decode cX9_lays 53 = .ok (.return_, 1) := by decide +kernel
theorem dX9_total_0 : decode cX9_total 0 = .ok (.aload_n 0, 1) := by decide +kernel
theorem dX9_total_1 : decode cX9_total 1 = .ok (.getfield 27, 3) := by decide +kernel
theorem dX9_total_4 : decode cX9_total 4 = .ok (.aload_n 0, 1) := by decide +kernel
theorem dX9_total_5 : decode cX9_total 5 = .ok (.getfield 7, 3) := by decide +kernel
theorem dX9_total_8 : decode cX9_total 8 = .ok (.iconst 0, 1) := by decide +kernel
theorem dX9_total_9 : decode cX9_total 9 = .ok (.iaload, 1) := by decide +kernel
theorem dX9_total_10 : decode cX9_total 10 = .ok (.iaload, 1) := by decide +kernel
theorem dX9_total_11 : decode cX9_total 11 = .ok (.aload_n 0, 1) := by decide +kernel
theorem dX9_total_12 : decode cX9_total 12 = .ok (.aload_n 0, 1) := by decide +kernel
theorem dX9_total_13 : decode cX9_total 13 = .ok (.getfield 7, 3) := by decide +kernel
theorem dX9_total_16 : decode cX9_total 16 = .ok (.iconst 0, 1) := by decide +kernel
theorem dX9_total_17 : decode cX9_total 17 = .ok (.iaload, 1) := by decide +kernel
theorem dX9_total_18 : decode cX9_total 18 = .ok (.aload_n 0, 1) := by decide +kernel
theorem dX9_total_19 : decode cX9_total 19 = .ok (.getfield 27, 3) := by decide +kernel
theorem dX9_total_22 : decode cX9_total 22 = .ok (.aload_n 0, 1) := by decide +kernel
theorem dX9_total_23 : decode cX9_total 23 = .ok (.getfield 7, 3) := by decide +kernel
theorem dX9_total_26 : decode cX9_total 26 = .ok (.iconst 0, 1) := by decide +kernel
theorem dX9_total_27 : decode cX9_total 27 = .ok (.iaload, 1) := by decide +kernel
theorem dX9_total_28 : decode cX9_total 28 = .ok (.iaload, 1) := by decide +kernel
theorem dX9_total_29 : decode cX9_total 29 = .ok (.invokevirtual 80, 3) := by decide +kernel
theorem dX9_total_32 : decode cX9_total 32 = .ok (.iadd, 1) := by decide +kernel
theorem dX9_total_33 : decode cX9_total 33 = .ok (.ireturn, 1) := by decide +kernel
theorem dX9_defines_0 : decode cX9_defines 0 = .ok (.iconst 0, 1) := by decide +kernel
theorem dX9_defines_1 : decode cX9_defines 1 = .ok (.istore_n 2, 1) := by decide +kernel
theorem dX9_defines_2 : decode cX9_defines 2 = .ok (.iload_n 2, 1) := by decide +kernel
theorem dX9_defines_3 : decode cX9_defines 3 = .ok (.aload_n 0, 1) := by decide +kernel
theorem dX9_defines_4 : decode cX9_defines 4 = .ok (.getfield 7, 3) := by decide +kernel
theorem dX9_defines_7 : decode cX9_defines 7 = .ok (.iconst 0, 1) := by decide +kernel
theorem dX9_defines_8 : decode cX9_defines 8 = .ok (.iaload, 1) := by decide +kernel
theorem dX9_defines_9 : decode cX9_defines 9 = .ok (.if_icmp .ge 29, 3) := by decide +kernel
theorem dX9_defines_12 : decode cX9_defines 12 = .ok (.aload_n 0, 1) := by decide +kernel
theorem dX9_defines_13 : decode cX9_defines 13 = .ok (.iload_n 2, 1) := by decide +kernel
theorem dX9_defines_14 : decode cX9_defines 14 = .ok (.invokevirtual 53, 3) := by decide +kernel
theorem dX9_defines_17 : decode cX9_defines 17 = .ok (.iconst 2, 1) := by decide +kernel
theorem dX9_defines_18 : decode cX9_defines 18 = .ok (.if_icmp .ne 14, 3) := by decide +kernel
theorem dX9_defines_21 : decode cX9_defines 21 = .ok (.aload_n 0, 1) := by decide +kernel
theorem dX9_defines_22 : decode cX9_defines 22 = .ok (.iload_n 2, 1) := by decide +kernel
theorem dX9_defines_23 : decode cX9_defines 23 = .ok (.invokevirtual 63, 3) := by decide +kernel
theorem dX9_defines_26 : decode cX9_defines 26 = .ok (.iload_n 1, 1) := by decide +kernel
theorem dX9_defines_27 : decode cX9_defines 27 = .ok (.if_icmp .ne 5, 3) := by decide +kernel
theorem dX9_defines_30 : decode cX9_defines 30 = .ok (.iload_n 2, 1) := by decide +kernel
theorem dX9_defines_31 : decode cX9_defines 31 = .ok (.ireturn, 1) := by decide +kernel
theorem dX9_defines_32 : decode cX9_defines 32 = .ok (.iinc 2 1, 3) := by decide +kernel
theorem dX9_defines_35 : decode cX9_defines 35 = .ok (.goto (-33), 3) := by decide +kernel
theorem dX9_defines_38 : decode cX9_defines 38 = .ok (.iconst (-1), 1) := by decide +kernel
theorem dX9_defines_39 : decode cX9_defines 39 = .ok (.ireturn, 1) := by decide +kernel
theorem dX9_reset_0 : decode cX9_reset 0 = .ok (.aload_n 0, 1) := by decide +kernel
theorem dX9_reset_1 : decode cX9_reset 1 = .ok (.getfield 7, 3) := by decide +kernel
theorem dX9_reset_4 : decode cX9_reset 4 = .ok (.iconst 0, 1) := by decide +kernel
theorem dX9_reset_5 : decode cX9_reset 5 = .ok (.iaload, 1) := by decide +kernel
theorem dX9_reset_6 : decode cX9_reset 6 = .ok (.istore_n 1, 1) := by decide +kernel
theorem dX9_reset_7 : decode cX9_reset 7 = .ok (.iconst 0, 1) := by decide +kernel
end
section
theorem dX9_reset_8 : decode cX9_reset 8 = .ok (.istore_n 2, 1) := by decide +kernel
theorem dX9_reset_9 : decode cX9_reset 9 = .ok (.iload_n 2, 1) := by decide +kernel
theorem dX9_reset_10 : decode cX9_reset 10 = .ok (.bipush 121, 2) := by decide +kernel
theorem dX9_reset_12 : decode cX9_reset 12 = .ok (.if_icmp .ge 16, 3) := by decide +kernel
theorem dX9_reset_15 : decode cX9_reset 15 = .ok (.aload_n 0, 1) := by decide +kernel
theorem dX9_reset_16 : decode cX9_reset 16 = .ok (.getfield 7, 3) := by decide +kernel
theorem dX9_reset_19 : decode cX9_reset 19 = .ok (.iload_n 2, 1) := by decide +kernel
theorem dX9_reset_20 : decode cX9_reset 20 = .ok (.iconst 0, 1) := by decide +kernel
theorem dX9_reset_21 : decode cX9_reset 21 = .ok (.iastore, 1) := by decide +kernel
theorem dX9_reset_22 : decode cX9_reset 22 = .ok (.iinc 2 1, 3) := by decide +kernel
theorem dX9_reset_25 : decode cX9_reset 25 = .ok (.goto (-16), 3) := by decide +kernel
theorem dX9_reset_28 : decode cX9_reset 28 = .ok (.aload_n 0, 1) := by decide +kernel
theorem dX9_reset_29 : decode cX9_reset 29 = .ok (.iconst 0, 1) := by decide +kernel
theorem dX9_reset_30 : decode cX9_reset 30 = .ok (.putfield 57, 3) := by decide +kernel
theorem dX9_reset_33 : decode cX9_reset 33 = .ok (.aload_n 0, 1) := by decide +kernel
theorem dX9_reset_34 : decode cX9_reset 34 = .ok (.iload_n 1, 1) := by decide +kernel
theorem dX9_reset_35 : decode cX9_reset 35 = .ok (.invokevirtual 90, 3) := by decide +kernel
theorem dX9_reset_38 : decode cX9_reset 38 = .ok (.ireturn, 1) := by decide +kernel
theorem dX9_itemCount_0 : decode cX9_itemCount 0 = .ok (.aload_n 0, 1) := by decide +kernel
theorem dX9_itemCount_1 : decode cX9_itemCount 1 = .ok (.aload_n 0, 1) := by decide +kernel
theorem dX9_itemCount_2 : decode cX9_itemCount 2 = .ok (.getfield 7, 3) := by decide +kernel
theorem dX9_itemCount_5 : decode cX9_itemCount 5 = .ok (.iconst 0, 1) := by decide +kernel
theorem dX9_itemCount_6 : decode cX9_itemCount 6 = .ok (.iaload, 1) := by decide +kernel
theorem dX9_itemCount_7 : decode cX9_itemCount 7 = .ok (.invokevirtual 90, 3) := by decide +kernel
theorem dX9_itemCount_10 : decode cX9_itemCount 10 = .ok (.ireturn, 1) := by decide +kernel
theorem dX9_append_0 : decode cX9_append 0 = .ok (.iload_n 1, 1) := by decide +kernel
theorem dX9_append_1 : decode cX9_append 1 = .ok (.bipush 32, 2) := by decide +kernel
theorem dX9_append_3 : decode cX9_append 3 = .ok (.bipush 126, 2) := by decide +kernel
theorem dX9_append_5 : decode cX9_append 5 = .ok (.invokestatic 49, 3) := by decide +kernel
theorem dX9_append_8 : decode cX9_append 8 = .ok (.ifCond .ne 9, 3) := by decide +kernel
theorem dX9_append_11 : decode cX9_append 11 = .ok (.aload_n 0, 1) := by decide +kernel
theorem dX9_append_12 : decode cX9_append 12 = .ok (.iconst 1, 1) := by decide +kernel
theorem dX9_append_13 : decode cX9_append 13 = .ok (.invokevirtual 93, 3) := by decide +kernel
theorem dX9_append_16 : decode cX9_append 16 = .ok (.ireturn, 1) := by decide +kernel
theorem dX9_append_17 : decode cX9_append 17 = .ok (.aload_n 0, 1) := by decide +kernel
theorem dX9_append_18 : decode cX9_append 18 = .ok (.getfield 96, 3) := by decide +kernel
theorem dX9_append_21 : decode cX9_append 21 = .ok (.bipush 12, 2) := by decide +kernel
theorem dX9_append_23 : decode cX9_append 23 = .ok (.if_icmp .ne 9, 3) := by decide +kernel
theorem dX9_append_26 : decode cX9_append 26 = .ok (.aload_n 0, 1) := by decide +kernel
theorem dX9_append_27 : decode cX9_append 27 = .ok (.iconst 2, 1) := by decide +kernel
theorem dX9_append_28 : decode cX9_append 28 = .ok (.invokevirtual 93, 3) := by decide +kernel
theorem dX9_append_31 : decode cX9_append 31 = .ok (.ireturn, 1) := by decide +kernel
theorem dX9_append_32 : decode cX9_append 32 = .ok (.aload_n 0, 1) := by decide +kernel
theorem dX9_append_33 : decode cX9_append 33 = .ok (.getfield 19, 3) := by decide +kernel
theorem dX9_append_36 : decode cX9_append 36 = .ok (.aload_n 0, 1) := by decide +kernel
theorem dX9_append_37 : decode cX9_append 37 = .ok (.getfield 96, 3) := by decide +kernel
theorem dX9_append_40 : decode cX9_append 40 = .ok (.iload_n 1, 1) := by decide +kernel
theorem dX9_append_41 : decode cX9_append 41 = .ok (.castore, 1) := by decide +kernel
theorem dX9_append_42 : decode cX9_append 42 = .ok (.aload_n 0, 1) := by decide +kernel
theorem dX9_append_43 : decode cX9_append 43 = .ok (.dup, 1) := by decide +kernel
theorem dX9_append_44 : decode cX9_append 44 = .ok (.getfield 96, 3) := by decide +kernel
theorem dX9_append_47 : decode cX9_append 47 = .ok (.iconst 1, 1) := by decide +kernel
theorem dX9_append_48 : decode cX9_append 48 = .ok (.iadd, 1) := by decide +kernel
theorem dX9_append_49 : decode cX9_append 49 = .ok (.putfield 96, 3) := by decide +kernel
theorem dX9_append_52 : decode cX9_append 52 = .ok (.aload_n 0, 1) := by decide +kernel
theorem dX9_append_53 : decode cX9_append 53 = .ok (.aload_n 0, 1) := by decide +kernel
theorem dX9_append_54 : decode cX9_append 54 = .ok (.getfield 96, 3) := by decide +kernel
theorem dX9_append_57 : decode cX9_append 57 = .ok (.invokevirtual 90, 3) := by decide +kernel
theorem dX9_append_60 : decode cX9_append 60 = .ok (.ireturn, 1) := by decide +kernel
theorem dX9_nameSize_0 : decode cX9_nameSize 0 = .ok (.bipush 6, 2) := by decide +kernel
theorem dX9_nameSize_2 : decode cX9_nameSize 2 = .ok (.istore_n 2, 1) := by decide +kernel
theorem dX9_nameSize_3 : decode cX9_nameSize 3 = .ok (.aload_n 0, 1) := by decide +kernel
theorem dX9_nameSize_4 : decode cX9_nameSize 4 = .ok (.getfield 33, 3) := by decide +kernel
theorem dX9_nameSize_7 : decode cX9_nameSize 7 = .ok (.bipush 6, 2) := by decide +kernel
theorem dX9_nameSize_9 : decode cX9_nameSize 9 = .ok (.iload_n 1, 1) := by decide +kernel
theorem dX9_nameSize_10 : decode cX9_nameSize 10 = .ok (.imul, 1) := by decide +kernel
theorem dX9_nameSize_11 : decode cX9_nameSize 11 = .ok (.iload_n 2, 1) := by decide +kernel
theorem dX9_nameSize_12 : decode cX9_nameSize 12 = .ok (.iadd, 1) := by decide +kernel
theorem dX9_nameSize_13 : decode cX9_nameSize 13 = .ok (.iconst 1, 1) := by decide +kernel
theorem dX9_nameSize_14 : decode cX9_nameSize 14 = .ok (.isub, 1) := by decide +kernel
theorem dX9_nameSize_15 : decode cX9_nameSize 15 = .ok (.iaload, 1) := by decide +kernel
theorem dX9_nameSize_16 : decode cX9_nameSize 16 = .ok (.bipush 32, 2) := by decide +kernel
theorem dX9_nameSize_18 : decode cX9_nameSize 18 = .ok (.if_icmp .ne 9, 3) := by decide +kernel
theorem dX9_nameSize_21 : decode cX9_nameSize 21 = .ok (.iinc 2 (-1), 3) := by decide +kernel
theorem dX9_nameSize_24 : decode cX9_nameSize 24 = .ok (.goto (-21), 3) := by decide +kernel
theorem dX9_nameSize_27 : decode cX9_nameSize 27 = .ok (.iload_n 2, 1) := by decide +kernel
theorem dX9_nameSize_28 : decode cX9_nameSize 28 = .ok (.ireturn, 1) := by decide +kernel
theorem dX9_isFigure_0 : decode cX9_isFigure 0 = .ok (.iload_n 1, 1) := by decide +kernel
theorem dX9_isFigure_1 : decode cX9_isFigure 1 = .ok (.aload_n 0, 1) := by decide +kernel
theorem dX9_isFigure_2 : decode cX9_isFigure 2 = .ok (.getfield 96, 3) := by decide +kernel
theorem dX9_isFigure_5 : decode cX9_isFigure 5 = .ok (.if_icmp .ge 23, 3) := by decide +kernel
theorem dX9_isFigure_8 : decode cX9_isFigure 8 = .ok (.aload_n 0, 1) := by decide +kernel
theorem dX9_isFigure_9 : decode cX9_isFigure 9 = .ok (.getfield 19, 3) := by decide +kernel
theorem dX9_isFigure_12 : decode cX9_isFigure 12 = .ok (.iload_n 1, 1) := by decide +kernel
theorem dX9_isFigure_13 : decode cX9_isFigure 13 = .ok (.caload, 1) := by decide +kernel
theorem dX9_isFigure_14 : decode cX9_isFigure 14 = .ok (.bipush 48, 2) := by decide +kernel
theorem dX9_isFigure_16 : decode cX9_isFigure 16 = .ok (.bipush 57, 2) := by decide +kernel
theorem dX9_isFigure_18 : decode cX9_isFigure 18 = .ok (.invokestatic 49, 3) := by decide +kernel
theorem dX9_isFigure_21 : decode cX9_isFigure 21 = .ok (.ifCond .eq 7, 3) := by decide +kernel
theorem dX9_isFigure_24 : decode cX9_isFigure 24 = .ok (.iconst 1, 1) := by decide +kernel
theorem dX9_isFigure_25 : decode cX9_isFigure 25 = .ok (.goto 4, 3) := by decide +kernel
theorem dX9_isFigure_28 : decode cX9_isFigure 28 = .ok (.iconst 0, 1) := by decide +kernel
theorem dX9_isFigure_29 : decode cX9_isFigure 29 = .ok (.ireturn, 1) := by decide +kernel
theorem dX9_goes_0 : decode cX9_goes 0 = .ok (.aload_n 0, 1) := by decide +kernel
theorem dX9_goes_1 : decode cX9_goes 1 = .ok (.iload_n 1, 1) := by decide +kernel
theorem dX9_goes_2 : decode cX9_goes 2 = .ok (.invokevirtual 99, 3) := by decide +kernel
theorem dX9_goes_5 : decode cX9_goes 5 = .ok (.istore_n 2, 1) := by decide +kernel
theorem dX9_goes_6 : decode cX9_goes 6 = .ok (.aload_n 0, 1) := by decide +kernel
theorem dX9_goes_7 : decode cX9_goes 7 = .ok (.iconst 0, 1) := by decide +kernel
theorem dX9_goes_8 : decode cX9_goes 8 = .ok (.putfield 102, 3) := by decide +kernel
theorem dX9_goes_11 : decode cX9_goes 11 = .ok (.aload_n 0, 1) := by decide +kernel
theorem dX9_goes_12 : decode cX9_goes 12 = .ok (.iconst 0, 1) := by decide +kernel
theorem dX9_goes_13 : decode cX9_goes 13 = .ok (.putfield 106, 3) := by decide +kernel
theorem dX9_goes_16 : decode cX9_goes 16 = .ok (.iconst 0, 1) := by decide +kernel
theorem dX9_goes_17 : decode cX9_goes 17 = .ok (.istore_n 3, 1) := by decide +kernel
theorem dX9_goes_18 : decode cX9_goes 18 = .ok (.iload_n 3, 1) := by decide +kernel
theorem dX9_goes_19 : decode cX9_goes 19 = .ok (.iload_n 2, 1) := by decide +kernel
theorem dX9_goes_20 : decode cX9_goes 20 = .ok (.if_icmp .ge 37, 3) := by decide +kernel
theorem dX9_goes_23 : decode cX9_goes 23 = .ok (.iload_n 3, 1) := by decide +kernel
theorem dX9_goes_24 : decode cX9_goes 24 = .ok (.aload_n 0, 1) := by decide +kernel
theorem dX9_goes_25 : decode cX9_goes 25 = .ok (.getfield 96, 3) := by decide +kernel
theorem dX9_goes_28 : decode cX9_goes 28 = .ok (.if_icmp .ge 29, 3) := by decide +kernel
theorem dX9_goes_31 : decode cX9_goes 31 = .ok (.aload_n 0, 1) := by decide +kernel
theorem dX9_goes_32 : decode cX9_goes 32 = .ok (.getfield 19, 3) := by decide +kernel
theorem dX9_goes_35 : decode cX9_goes 35 = .ok (.iload_n 3, 1) := by decide +kernel
theorem dX9_goes_36 : decode cX9_goes 36 = .ok (.caload, 1) := by decide +kernel
theorem dX9_goes_37 : decode cX9_goes 37 = .ok (.aload_n 0, 1) := by decide +kernel
theorem dX9_goes_38 : decode cX9_goes 38 = .ok (.getfield 33, 3) := by decide +kernel
theorem dX9_goes_41 : decode cX9_goes 41 = .ok (.bipush 6, 2) := by decide +kernel
theorem dX9_goes_43 : decode cX9_goes 43 = .ok (.iload_n 1, 1) := by decide +kernel
theorem dX9_goes_44 : decode cX9_goes 44 = .ok (.imul, 1) := by decide +kernel
theorem dX9_goes_45 : decode cX9_goes 45 = .ok (.iload_n 3, 1) := by decide +kernel
theorem dX9_goes_46 : decode cX9_goes 46 = .ok (.iadd, 1) := by decide +kernel
theorem dX9_goes_47 : decode cX9_goes 47 = .ok (.iaload, 1) := by decide +kernel
theorem dX9_goes_48 : decode cX9_goes 48 = .ok (.if_icmp .ne 9, 3) := by decide +kernel
theorem dX9_goes_51 : decode cX9_goes 51 = .ok (.iinc 3 1, 3) := by decide +kernel
theorem dX9_goes_54 : decode cX9_goes 54 = .ok (.goto (-36), 3) := by decide +kernel
theorem dX9_goes_57 : decode cX9_goes 57 = .ok (.iload_n 3, 1) := by decide +kernel
theorem dX9_goes_58 : decode cX9_goes 58 = .ok (.iload_n 2, 1) := by decide +kernel
theorem dX9_goes_59 : decode cX9_goes 59 = .ok (.if_icmp .lt 9, 3) := by decide +kernel
theorem dX9_goes_62 : decode cX9_goes 62 = .ok (.iload_n 1, 1) := by decide +kernel
theorem dX9_goes_63 : decode cX9_goes 63 = .ok (.bipush 7, 2) := by decide +kernel
theorem dX9_goes_65 : decode cX9_goes 65 = .ok (.if_icmp .ne 27, 3) := by decide +kernel
theorem dX9_goes_68 : decode cX9_goes 68 = .ok (.aload_n 0, 1) := by decide +kernel
theorem dX9_goes_69 : decode cX9_goes 69 = .ok (.iload_n 3, 1) := by decide +kernel
theorem dX9_goes_70 : decode cX9_goes 70 = .ok (.iload_n 2, 1) := by decide +kernel
theorem dX9_goes_71 : decode cX9_goes 71 = .ok (.if_icmp .ne 15, 3) := by decide +kernel
theorem dX9_goes_74 : decode cX9_goes 74 = .ok (.iload_n 3, 1) := by decide +kernel
theorem dX9_goes_75 : decode cX9_goes 75 = .ok (.aload_n 0, 1) := by decide +kernel
theorem dX9_goes_76 : decode cX9_goes 76 = .ok (.getfield 96, 3) := by decide +kernel
theorem dX9_goes_79 : decode cX9_goes 79 = .ok (.if_icmp .ne 7, 3) := by decide +kernel
theorem dX9_goes_82 : decode cX9_goes 82 = .ok (.iconst 1, 1) := by decide +kernel
theorem dX9_goes_83 : decode cX9_goes 83 = .ok (.goto 4, 3) := by decide +kernel
theorem dX9_goes_86 : decode cX9_goes 86 = .ok (.iconst 0, 1) := by decide +kernel
theorem dX9_goes_87 : decode cX9_goes 87 = .ok (.putfield 102, 3) := by decide +kernel
theorem dX9_goes_90 : decode cX9_goes 90 = .ok (.iload_n 3, 1) := by decide +kernel
theorem dX9_goes_91 : decode cX9_goes 91 = .ok (.ireturn, 1) := by decide +kernel
theorem dX9_goes_92 : decode cX9_goes 92 = .ok (.iload_n 3, 1) := by decide +kernel
theorem dX9_goes_93 : decode cX9_goes 93 = .ok (.aload_n 0, 1) := by decide +kernel
theorem dX9_goes_94 : decode cX9_goes 94 = .ok (.getfield 96, 3) := by decide +kernel
theorem dX9_goes_97 : decode cX9_goes 97 = .ok (.if_icmp .eq 14, 3) := by decide +kernel
theorem dX9_goes_100 : decode cX9_goes 100 = .ok (.aload_n 0, 1) := by decide +kernel
theorem dX9_goes_101 : decode cX9_goes 101 = .ok (.getfield 19, 3) := by decide +kernel
theorem dX9_goes_104 : decode cX9_goes 104 = .ok (.iload_n 3, 1) := by decide +kernel
theorem dX9_goes_105 : decode cX9_goes 105 = .ok (.caload, 1) := by decide +kernel
theorem dX9_goes_106 : decode cX9_goes 106 = .ok (.bipush 32, 2) := by decide +kernel
theorem dX9_goes_108 : decode cX9_goes 108 = .ok (.if_icmp .eq 5, 3) := by decide +kernel
theorem dX9_goes_111 : decode cX9_goes 111 = .ok (.iload_n 3, 1) := by decide +kernel
theorem dX9_goes_112 : decode cX9_goes 112 = .ok (.ireturn, 1) := by decide +kernel
theorem dX9_goes_113 : decode cX9_goes 113 = .ok (.iinc 3 1, 3) := by decide +kernel
theorem dX9_goes_116 : decode cX9_goes 116 = .ok (.iconst 0, 1) := by decide +kernel
theorem dX9_goes_117 : decode cX9_goes 117 = .ok (.istore 4, 2) := by decide +kernel
theorem dX9_goes_119 : decode cX9_goes 119 = .ok (.iload 4, 2) := by decide +kernel
theorem dX9_goes_121 : decode cX9_goes 121 = .ok (.iconst 2, 1) := by decide +kernel
theorem dX9_goes_122 : decode cX9_goes 122 = .ok (.if_icmp .ge 46, 3) := by decide +kernel
theorem dX9_goes_125 : decode cX9_goes 125 = .ok (.aload_n 0, 1) := by decide +kernel
theorem dX9_goes_126 : decode cX9_goes 126 = .ok (.iload_n 3, 1) := by decide +kernel
theorem dX9_goes_127 : decode cX9_goes 127 = .ok (.invokevirtual 109, 3) := by decide +kernel
theorem dX9_goes_130 : decode cX9_goes 130 = .ok (.ifCond .eq 38, 3) := by decide +kernel
theorem dX9_goes_133 : decode cX9_goes 133 = .ok (.aload_n 0, 1) := by decide +kernel
theorem dX9_goes_134 : decode cX9_goes 134 = .ok (.bipush 10, 2) := by decide +kernel
theorem dX9_goes_136 : decode cX9_goes 136 = .ok (.aload_n 0, 1) := by decide +kernel
theorem dX9_goes_137 : decode cX9_goes 137 = .ok (.getfield 106, 3) := by decide +kernel
theorem dX9_goes_140 : decode cX9_goes 140 = .ok (.imul, 1) := by decide +kernel
theorem dX9_goes_141 : decode cX9_goes 141 = .ok (.aload_n 0, 1) := by decide +kernel
theorem dX9_goes_142 : decode cX9_goes 142 = .ok (.getfield 19, 3) := by decide +kernel
theorem dX9_goes_145 : decode cX9_goes 145 = .ok (.iload_n 3, 1) := by decide +kernel
theorem dX9_goes_146 : decode cX9_goes 146 = .ok (.caload, 1) := by decide +kernel
theorem dX9_goes_147 : decode cX9_goes 147 = .ok (.iadd, 1) := by decide +kernel
theorem dX9_goes_148 : decode cX9_goes 148 = .ok (.bipush 48, 2) := by decide +kernel
theorem dX9_goes_150 : decode cX9_goes 150 = .ok (.isub, 1) := by decide +kernel
theorem dX9_goes_151 : decode cX9_goes 151 = .ok (.putfield 106, 3) := by decide +kernel
theorem dX9_goes_154 : decode cX9_goes 154 = .ok (.iinc 3 1, 3) := by decide +kernel
theorem dX9_goes_157 : decode cX9_goes 157 = .ok (.aload_n 0, 1) := by decide +kernel
theorem dX9_goes_158 : decode cX9_goes 158 = .ok (.iconst 1, 1) := by decide +kernel
theorem dX9_goes_159 : decode cX9_goes 159 = .ok (.putfield 102, 3) := by decide +kernel
theorem dX9_goes_162 : decode cX9_goes 162 = .ok (.iinc 4 1, 3) := by decide +kernel
theorem dX9_goes_165 : decode cX9_goes 165 = .ok (.goto (-46), 3) := by decide +kernel
theorem dX9_goes_168 : decode cX9_goes 168 = .ok (.aload_n 0, 1) := by decide +kernel
theorem dX9_goes_169 : decode cX9_goes 169 = .ok (.aload_n 0, 1) := by decide +kernel
theorem dX9_goes_170 : decode cX9_goes 170 = .ok (.getfield 102, 3) := by decide +kernel
theorem dX9_goes_173 : decode cX9_goes 173 = .ok (.ifCond .eq 15, 3) := by decide +kernel
theorem dX9_goes_176 : decode cX9_goes 176 = .ok (.iload_n 3, 1) := by decide +kernel
theorem dX9_goes_177 : decode cX9_goes 177 = .ok (.aload_n 0, 1) := by decide +kernel
theorem dX9_goes_178 : decode cX9_goes 178 = .ok (.getfield 96, 3) := by decide +kernel
theorem dX9_goes_181 : decode cX9_goes 181 = .ok (.if_icmp .ne 7, 3) := by decide +kernel
theorem dX9_goes_184 : decode cX9_goes 184 = .ok (.iconst 1, 1) := by decide +kernel
theorem dX9_goes_185 : decode cX9_goes 185 = .ok (.goto 4, 3) := by decide +kernel
theorem dX9_goes_188 : decode cX9_goes 188 = .ok (.iconst 0, 1) := by decide +kernel
theorem dX9_goes_189 : decode cX9_goes 189 = .ok (.putfield 102, 3) := by decide +kernel
theorem dX9_goes_192 : decode cX9_goes 192 = .ok (.iload_n 3, 1) := by decide +kernel
theorem dX9_goes_193 : decode cX9_goes 193 = .ok (.ireturn, 1) := by decide +kernel
theorem dX9_isOperand_0 : decode cX9_isOperand 0 = .ok (.iload_n 0, 1) := by decide +kernel
theorem dX9_isOperand_1 : decode cX9_isOperand 1 = .ok (.tableswitch 80 0 7 #[47, 55, 80, 63, 80, 80, 70, 78], 47) := by decide +kernel
theorem dX9_isOperand_48 : decode cX9_isOperand 48 = .ok (.iload_n 1, 1) := by decide +kernel
theorem dX9_isOperand_49 : decode cX9_isOperand 49 = .ok (.iconst 1, 1) := by decide +kernel
theorem dX9_isOperand_50 : decode cX9_isOperand 50 = .ok (.bipush 9, 2) := by decide +kernel
theorem dX9_isOperand_52 : decode cX9_isOperand 52 = .ok (.invokestatic 49, 3) := by decide +kernel
theorem dX9_isOperand_55 : decode cX9_isOperand 55 = .ok (.ireturn, 1) := by decide +kernel
theorem dX9_isOperand_56 : decode cX9_isOperand 56 = .ok (.iload_n 1, 1) := by decide +kernel
theorem dX9_isOperand_57 : decode cX9_isOperand 57 = .ok (.iconst 1, 1) := by decide +kernel
theorem dX9_isOperand_58 : decode cX9_isOperand 58 = .ok (.bipush 50, 2) := by decide +kernel
theorem dX9_isOperand_60 : decode cX9_isOperand 60 = .ok (.invokestatic 49, 3) := by decide +kernel
theorem dX9_isOperand_63 : decode cX9_isOperand 63 = .ok (.ireturn, 1) := by decide +kernel
theorem dX9_isOperand_64 : decode cX9_isOperand 64 = .ok (.iload_n 1, 1) := by decide +kernel
theorem dX9_isOperand_65 : decode cX9_isOperand 65 = .ok (.iconst 1, 1) := by decide +kernel
theorem dX9_isOperand_66 : decode cX9_isOperand 66 = .ok (.iconst 4, 1) := by decide +kernel
theorem dX9_isOperand_67 : decode cX9_isOperand 67 = .ok (.invokestatic 49, 3) := by decide +kernel
theorem dX9_isOperand_70 : decode cX9_isOperand 70 = .ok (.ireturn, 1) := by decide +kernel
theorem dX9_isOperand_71 : decode cX9_isOperand 71 = .ok (.iload_n 1, 1) := by decide +kernel
theorem dX9_isOperand_72 : decode cX9_isOperand 72 = .ok (.iconst 0, 1) := by decide +kernel
theorem dX9_isOperand_73 : decode cX9_isOperand 73 = .ok (.bipush 99, 2) := by decide +kernel
theorem dX9_isOperand_75 : decode cX9_isOperand 75 = .ok (.invokestatic 49, 3) := by decide +kernel
theorem dX9_isOperand_78 : decode cX9_isOperand 78 = .ok (.ireturn, 1) := by decide +kernel
theorem dX9_isOperand_79 : decode cX9_isOperand 79 = .ok (.iconst 1, 1) := by decide +kernel
theorem dX9_isOperand_80 : decode cX9_isOperand 80 = .ok (.ireturn, 1) := by decide +kernel
theorem dX9_isOperand_81 : decode cX9_isOperand 81 = .ok (.iload_n 1, 1) := by decide +kernel
theorem dX9_isOperand_82 : decode cX9_isOperand 82 = .ok (.iconst 0, 1) := by decide +kernel
theorem dX9_isOperand_83 : decode cX9_isOperand 83 = .ok (.bipush 9, 2) := by decide +kernel
theorem dX9_isOperand_85 : decode cX9_isOperand 85 = .ok (.invokestatic 49, 3) := by decide +kernel
theorem dX9_isOperand_88 : decode cX9_isOperand 88 = .ok (.ireturn, 1) := by decide +kernel
theorem dX9_opens_0 : decode cX9_opens 0 = .ok (.aload_n 0, 1) := by decide +kernel
theorem dX9_opens_1 : decode cX9_opens 1 = .ok (.getfield 7, 3) := by decide +kernel
theorem dX9_opens_4 : decode cX9_opens 4 = .ok (.iconst 0, 1) := by decide +kernel
theorem dX9_opens_5 : decode cX9_opens 5 = .ok (.iaload, 1) := by decide +kernel
theorem dX9_opens_6 : decode cX9_opens 6 = .ok (.istore_n 2, 1) := by decide +kernel
theorem dX9_opens_7 : decode cX9_opens 7 = .ok (.iload_n 2, 1) := by decide +kernel
theorem dX9_opens_8 : decode cX9_opens 8 = .ok (.iload_n 1, 1) := by decide +kernel
theorem dX9_opens_9 : decode cX9_opens 9 = .ok (.if_icmp .le 52, 3) := by decide +kernel
theorem dX9_opens_12 : decode cX9_opens 12 = .ok (.aload_n 0, 1) := by decide +kernel
theorem dX9_opens_13 : decode cX9_opens 13 = .ok (.getfield 7, 3) := by decide +kernel
theorem dX9_opens_16 : decode cX9_opens 16 = .ok (.iconst 1, 1) := by decide +kernel
theorem dX9_opens_17 : decode cX9_opens 17 = .ok (.iload_n 2, 1) := by decide +kernel
theorem dX9_opens_18 : decode cX9_opens 18 = .ok (.iadd, 1) := by decide +kernel
theorem dX9_opens_19 : decode cX9_opens 19 = .ok (.aload_n 0, 1) := by decide +kernel
theorem dX9_opens_20 : decode cX9_opens 20 = .ok (.iload_n 2, 1) := by decide +kernel
theorem dX9_opens_21 : decode cX9_opens 21 = .ok (.iconst 1, 1) := by decide +kernel
theorem dX9_opens_22 : decode cX9_opens 22 = .ok (.isub, 1) := by decide +kernel
theorem dX9_opens_23 : decode cX9_opens 23 = .ok (.invokevirtual 53, 3) := by decide +kernel
theorem dX9_opens_26 : decode cX9_opens 26 = .ok (.iastore, 1) := by decide +kernel
theorem dX9_opens_27 : decode cX9_opens 27 = .ok (.aload_n 0, 1) := by decide +kernel
theorem dX9_opens_28 : decode cX9_opens 28 = .ok (.getfield 7, 3) := by decide +kernel
theorem dX9_opens_31 : decode cX9_opens 31 = .ok (.bipush 41, 2) := by decide +kernel
theorem dX9_opens_33 : decode cX9_opens 33 = .ok (.iload_n 2, 1) := by decide +kernel
theorem dX9_opens_34 : decode cX9_opens 34 = .ok (.iadd, 1) := by decide +kernel
theorem dX9_opens_35 : decode cX9_opens 35 = .ok (.aload_n 0, 1) := by decide +kernel
theorem dX9_opens_36 : decode cX9_opens 36 = .ok (.iload_n 2, 1) := by decide +kernel
theorem dX9_opens_37 : decode cX9_opens 37 = .ok (.iconst 1, 1) := by decide +kernel
theorem dX9_opens_38 : decode cX9_opens 38 = .ok (.isub, 1) := by decide +kernel
theorem dX9_opens_39 : decode cX9_opens 39 = .ok (.invokevirtual 63, 3) := by decide +kernel
theorem dX9_opens_42 : decode cX9_opens 42 = .ok (.iastore, 1) := by decide +kernel
theorem dX9_opens_43 : decode cX9_opens 43 = .ok (.aload_n 0, 1) := by decide +kernel
theorem dX9_opens_44 : decode cX9_opens 44 = .ok (.iload_n 2, 1) := by decide +kernel
theorem dX9_opens_45 : decode cX9_opens 45 = .ok (.aload_n 0, 1) := by decide +kernel
theorem dX9_opens_46 : decode cX9_opens 46 = .ok (.iload_n 2, 1) := by decide +kernel
theorem dX9_opens_47 : decode cX9_opens 47 = .ok (.iconst 1, 1) := by decide +kernel
theorem dX9_opens_48 : decode cX9_opens 48 = .ok (.isub, 1) := by decide +kernel
theorem dX9_opens_49 : decode cX9_opens 49 = .ok (.invokevirtual 83, 3) := by decide +kernel
theorem dX9_opens_52 : decode cX9_opens 52 = .ok (.invokevirtual 113, 3) := by decide +kernel
theorem dX9_opens_55 : decode cX9_opens 55 = .ok (.iinc 2 (-1), 3) := by decide +kernel
theorem dX9_opens_58 : decode cX9_opens 58 = .ok (.goto (-51), 3) := by decide +kernel
theorem dX9_opens_61 : decode cX9_opens 61 = .ok (.aload_n 0, 1) := by decide +kernel
theorem dX9_opens_62 : decode cX9_opens 62 = .ok (.getfield 7, 3) := by decide +kernel
theorem dX9_opens_65 : decode cX9_opens 65 = .ok (.iconst 0, 1) := by decide +kernel
theorem dX9_opens_66 : decode cX9_opens 66 = .ok (.dup2, 1) := by decide +kernel
theorem dX9_opens_67 : decode cX9_opens 67 = .ok (.iaload, 1) := by decide +kernel
theorem dX9_opens_68 : decode cX9_opens 68 = .ok (.iconst 1, 1) := by decide +kernel
theorem dX9_opens_69 : decode cX9_opens 69 = .ok (.iadd, 1) := by decide +kernel
theorem dX9_opens_70 : decode cX9_opens 70 = .ok (.iastore, 1) := by decide +kernel
theorem dX9_opens_71 : decode cX9_opens 71 = .ok (.return_, 1) := by decide +kernel
theorem dX9_puts_0 : decode cX9_puts 0 = .ok (.aload_n 0, 1) := by decide +kernel
theorem dX9_puts_1 : decode cX9_puts 1 = .ok (.getfield 7, 3) := by decide +kernel
theorem dX9_puts_4 : decode cX9_puts 4 = .ok (.iconst 1, 1) := by decide +kernel
theorem dX9_puts_5 : decode cX9_puts 5 = .ok (.iload_n 1, 1) := by decide +kernel
theorem dX9_puts_6 : decode cX9_puts 6 = .ok (.iadd, 1) := by decide +kernel
theorem dX9_puts_7 : decode cX9_puts 7 = .ok (.iload_n 2, 1) := by decide +kernel
theorem dX9_puts_8 : decode cX9_puts 8 = .ok (.iastore, 1) := by decide +kernel
theorem dX9_puts_9 : decode cX9_puts 9 = .ok (.aload_n 0, 1) := by decide +kernel
theorem dX9_puts_10 : decode cX9_puts 10 = .ok (.getfield 7, 3) := by decide +kernel
theorem dX9_puts_13 : decode cX9_puts 13 = .ok (.bipush 41, 2) := by decide +kernel
theorem dX9_puts_15 : decode cX9_puts 15 = .ok (.iload_n 1, 1) := by decide +kernel
theorem dX9_puts_16 : decode cX9_puts 16 = .ok (.iadd, 1) := by decide +kernel
theorem dX9_puts_17 : decode cX9_puts 17 = .ok (.iload_n 3, 1) := by decide +kernel
theorem dX9_puts_18 : decode cX9_puts 18 = .ok (.iastore, 1) := by decide +kernel
theorem dX9_puts_19 : decode cX9_puts 19 = .ok (.aload_n 0, 1) := by decide +kernel
theorem dX9_puts_20 : decode cX9_puts 20 = .ok (.iload_n 1, 1) := by decide +kernel
theorem dX9_puts_21 : decode cX9_puts 21 = .ok (.iload 4, 2) := by decide +kernel
theorem dX9_puts_23 : decode cX9_puts 23 = .ok (.invokevirtual 113, 3) := by decide +kernel
theorem dX9_puts_26 : decode cX9_puts 26 = .ok (.return_, 1) := by decide +kernel
theorem dX9_closes_0 : decode cX9_closes 0 = .ok (.aload_n 0, 1) := by decide +kernel
theorem dX9_closes_1 : decode cX9_closes 1 = .ok (.getfield 7, 3) := by decide +kernel
theorem dX9_closes_4 : decode cX9_closes 4 = .ok (.iconst 0, 1) := by decide +kernel
theorem dX9_closes_5 : decode cX9_closes 5 = .ok (.dup2, 1) := by decide +kernel
theorem dX9_closes_6 : decode cX9_closes 6 = .ok (.iaload, 1) := by decide +kernel
theorem dX9_closes_7 : decode cX9_closes 7 = .ok (.iconst 1, 1) := by decide +kernel
theorem dX9_closes_8 : decode cX9_closes 8 = .ok (.isub, 1) := by decide +kernel
theorem dX9_closes_9 : decode cX9_closes 9 = .ok (.iastore, 1) := by decide +kernel
theorem dX9_closes_10 : decode cX9_closes 10 = .ok (.iload_n 1, 1) := by decide +kernel
theorem dX9_closes_11 : decode cX9_closes 11 = .ok (.istore_n 2, 1) := by decide +kernel
theorem dX9_closes_12 : decode cX9_closes 12 = .ok (.iload_n 2, 1) := by decide +kernel
theorem dX9_closes_13 : decode cX9_closes 13 = .ok (.aload_n 0, 1) := by decide +kernel
theorem dX9_closes_14 : decode cX9_closes 14 = .ok (.getfield 7, 3) := by decide +kernel
theorem dX9_closes_17 : decode cX9_closes 17 = .ok (.iconst 0, 1) := by decide +kernel
theorem dX9_closes_18 : decode cX9_closes 18 = .ok (.iaload, 1) := by decide +kernel
theorem dX9_closes_19 : decode cX9_closes 19 = .ok (.if_icmp .ge 35, 3) := by decide +kernel
theorem dX9_closes_22 : decode cX9_closes 22 = .ok (.aload_n 0, 1) := by decide +kernel
theorem dX9_closes_23 : decode cX9_closes 23 = .ok (.iload_n 2, 1) := by decide +kernel
theorem dX9_closes_24 : decode cX9_closes 24 = .ok (.aload_n 0, 1) := by decide +kernel
theorem dX9_closes_25 : decode cX9_closes 25 = .ok (.iload_n 2, 1) := by decide +kernel
theorem dX9_closes_26 : decode cX9_closes 26 = .ok (.iconst 1, 1) := by decide +kernel
theorem dX9_closes_27 : decode cX9_closes 27 = .ok (.iadd, 1) := by decide +kernel
theorem dX9_closes_28 : decode cX9_closes 28 = .ok (.invokevirtual 53, 3) := by decide +kernel
theorem dX9_closes_31 : decode cX9_closes 31 = .ok (.aload_n 0, 1) := by decide +kernel
theorem dX9_closes_32 : decode cX9_closes 32 = .ok (.iload_n 2, 1) := by decide +kernel
theorem dX9_closes_33 : decode cX9_closes 33 = .ok (.iconst 1, 1) := by decide +kernel
theorem dX9_closes_34 : decode cX9_closes 34 = .ok (.iadd, 1) := by decide +kernel
theorem dX9_closes_35 : decode cX9_closes 35 = .ok (.invokevirtual 63, 3) := by decide +kernel
theorem dX9_closes_38 : decode cX9_closes 38 = .ok (.aload_n 0, 1) := by decide +kernel
theorem dX9_closes_39 : decode cX9_closes 39 = .ok (.iload_n 2, 1) := by decide +kernel
theorem dX9_closes_40 : decode cX9_closes 40 = .ok (.iconst 1, 1) := by decide +kernel
theorem dX9_closes_41 : decode cX9_closes 41 = .ok (.iadd, 1) := by decide +kernel
theorem dX9_closes_42 : decode cX9_closes 42 = .ok (.invokevirtual 83, 3) := by decide +kernel
theorem dX9_closes_45 : decode cX9_closes 45 = .ok (.invokevirtual 117, 3) := by decide +kernel
theorem dX9_closes_48 : decode cX9_closes 48 = .ok (.iinc 2 1, 3) := by decide +kernel
theorem dX9_closes_51 : decode cX9_closes 51 = .ok (.goto (-39), 3) := by decide +kernel
theorem dX9_closes_54 : decode cX9_closes 54 = .ok (.return_, 1) := by decide +kernel
theorem dX9_insert_0 : decode cX9_insert 0 = .ok (.iconst 0, 1) := by decide +kernel
theorem dX9_insert_1 : decode cX9_insert 1 = .ok (.istore_n 2, 1) := by decide +kernel
theorem dX9_insert_2 : decode cX9_insert 2 = .ok (.iconst (-1), 1) := by decide +kernel
theorem dX9_insert_3 : decode cX9_insert 3 = .ok (.istore_n 3, 1) := by decide +kernel
theorem dX9_insert_4 : decode cX9_insert 4 = .ok (.iconst 0, 1) := by decide +kernel
theorem dX9_insert_5 : decode cX9_insert 5 = .ok (.istore 4, 2) := by decide +kernel
theorem dX9_insert_7 : decode cX9_insert 7 = .ok (.iconst 0, 1) := by decide +kernel
theorem dX9_insert_8 : decode cX9_insert 8 = .ok (.istore 5, 2) := by decide +kernel
theorem dX9_insert_10 : decode cX9_insert 10 = .ok (.iload 5, 2) := by decide +kernel
theorem dX9_insert_12 : decode cX9_insert 12 = .ok (.bipush 8, 2) := by decide +kernel
theorem dX9_insert_14 : decode cX9_insert 14 = .ok (.if_icmp .ge 62, 3) := by decide +kernel
theorem dX9_insert_17 : decode cX9_insert 17 = .ok (.aload_n 0, 1) := by decide +kernel
theorem dX9_insert_18 : decode cX9_insert 18 = .ok (.iload 5, 2) := by decide +kernel
theorem dX9_insert_20 : decode cX9_insert 20 = .ok (.invokevirtual 121, 3) := by decide +kernel
theorem dX9_insert_23 : decode cX9_insert 23 = .ok (.istore 6, 2) := by decide +kernel
theorem dX9_insert_25 : decode cX9_insert 25 = .ok (.iload 6, 2) := by decide +kernel
theorem dX9_insert_27 : decode cX9_insert 27 = .ok (.iload_n 2, 1) := by decide +kernel
theorem dX9_insert_28 : decode cX9_insert 28 = .ok (.if_icmp .le 8, 3) := by decide +kernel
theorem dX9_insert_31 : decode cX9_insert 31 = .ok (.iload 6, 2) := by decide +kernel
theorem dX9_insert_33 : decode cX9_insert 33 = .ok (.goto 4, 3) := by decide +kernel
theorem dX9_insert_36 : decode cX9_insert 36 = .ok (.iload_n 2, 1) := by decide +kernel
theorem dX9_insert_37 : decode cX9_insert 37 = .ok (.istore_n 2, 1) := by decide +kernel
theorem dX9_insert_38 : decode cX9_insert 38 = .ok (.aload_n 0, 1) := by decide +kernel
theorem dX9_insert_39 : decode cX9_insert 39 = .ok (.getfield 102, 3) := by decide +kernel
theorem dX9_insert_42 : decode cX9_insert 42 = .ok (.ifCond .eq 8, 3) := by decide +kernel
theorem dX9_insert_45 : decode cX9_insert 45 = .ok (.iload 5, 2) := by decide +kernel
theorem dX9_insert_47 : decode cX9_insert 47 = .ok (.goto 4, 3) := by decide +kernel
theorem dX9_insert_50 : decode cX9_insert 50 = .ok (.iload_n 3, 1) := by decide +kernel
theorem dX9_insert_51 : decode cX9_insert 51 = .ok (.istore_n 3, 1) := by decide +kernel
theorem dX9_insert_52 : decode cX9_insert 52 = .ok (.aload_n 0, 1) := by decide +kernel
theorem dX9_insert_53 : decode cX9_insert 53 = .ok (.getfield 102, 3) := by decide +kernel
theorem dX9_insert_56 : decode cX9_insert 56 = .ok (.ifCond .eq 10, 3) := by decide +kernel
theorem dX9_insert_59 : decode cX9_insert 59 = .ok (.aload_n 0, 1) := by decide +kernel
theorem dX9_insert_60 : decode cX9_insert 60 = .ok (.getfield 106, 3) := by decide +kernel
theorem dX9_insert_63 : decode cX9_insert 63 = .ok (.goto 5, 3) := by decide +kernel
theorem dX9_insert_66 : decode cX9_insert 66 = .ok (.iload 4, 2) := by decide +kernel
theorem dX9_insert_68 : decode cX9_insert 68 = .ok (.istore 4, 2) := by decide +kernel
theorem dX9_insert_70 : decode cX9_insert 70 = .ok (.iinc 5 1, 3) := by decide +kernel
theorem dX9_insert_73 : decode cX9_insert 73 = .ok (.goto (-63), 3) := by decide +kernel
theorem dX9_insert_76 : decode cX9_insert 76 = .ok (.aload_n 0, 1) := by decide +kernel
theorem dX9_insert_77 : decode cX9_insert 77 = .ok (.iconst 0, 1) := by decide +kernel
theorem dX9_insert_78 : decode cX9_insert 78 = .ok (.putfield 96, 3) := by decide +kernel
theorem dX9_insert_81 : decode cX9_insert 81 = .ok (.iload_n 1, 1) := by decide +kernel
theorem dX9_insert_82 : decode cX9_insert 82 = .ok (.iconst 0, 1) := by decide +kernel
theorem dX9_insert_83 : decode cX9_insert 83 = .ok (.aload_n 0, 1) := by decide +kernel
theorem dX9_insert_84 : decode cX9_insert 84 = .ok (.getfield 7, 3) := by decide +kernel
theorem dX9_insert_87 : decode cX9_insert 87 = .ok (.iconst 0, 1) := by decide +kernel
theorem dX9_insert_88 : decode cX9_insert 88 = .ok (.iaload, 1) := by decide +kernel
theorem dX9_insert_89 : decode cX9_insert 89 = .ok (.invokestatic 49, 3) := by decide +kernel
theorem dX9_insert_92 : decode cX9_insert 92 = .ok (.ifCond .ne 9, 3) := by decide +kernel
theorem dX9_insert_95 : decode cX9_insert 95 = .ok (.aload_n 0, 1) := by decide +kernel
theorem dX9_insert_96 : decode cX9_insert 96 = .ok (.iconst 1, 1) := by decide +kernel
theorem dX9_insert_97 : decode cX9_insert 97 = .ok (.invokevirtual 93, 3) := by decide +kernel
theorem dX9_insert_100 : decode cX9_insert 100 = .ok (.ireturn, 1) := by decide +kernel
theorem dX9_insert_101 : decode cX9_insert 101 = .ok (.iload_n 3, 1) := by decide +kernel
theorem dX9_insert_102 : decode cX9_insert 102 = .ok (.iconst (-1), 1) := by decide +kernel
theorem dX9_insert_103 : decode cX9_insert 103 = .ok (.if_icmp .ne 14, 3) := by decide +kernel
theorem dX9_insert_106 : decode cX9_insert 106 = .ok (.aload_n 0, 1) := by decide +kernel
theorem dX9_insert_107 : decode cX9_insert 107 = .ok (.iload_n 2, 1) := by decide +kernel
theorem dX9_insert_108 : decode cX9_insert 108 = .ok (.putfield 23, 3) := by decide +kernel
theorem dX9_insert_111 : decode cX9_insert 111 = .ok (.aload_n 0, 1) := by decide +kernel
theorem dX9_insert_112 : decode cX9_insert 112 = .ok (.iconst 2, 1) := by decide +kernel
theorem dX9_insert_113 : decode cX9_insert 113 = .ok (.invokevirtual 93, 3) := by decide +kernel
theorem dX9_insert_116 : decode cX9_insert 116 = .ok (.ireturn, 1) := by decide +kernel
theorem dX9_insert_117 : decode cX9_insert 117 = .ok (.iload_n 3, 1) := by decide +kernel
theorem dX9_insert_118 : decode cX9_insert 118 = .ok (.iload 4, 2) := by decide +kernel
theorem dX9_insert_120 : decode cX9_insert 120 = .ok (.invokestatic 124, 3) := by decide +kernel
theorem dX9_insert_123 : decode cX9_insert 123 = .ok (.ifCond .ne 9, 3) := by decide +kernel
theorem dX9_insert_126 : decode cX9_insert 126 = .ok (.aload_n 0, 1) := by decide +kernel
theorem dX9_insert_127 : decode cX9_insert 127 = .ok (.iconst 2, 1) := by decide +kernel
theorem dX9_insert_128 : decode cX9_insert 128 = .ok (.invokevirtual 93, 3) := by decide +kernel
theorem dX9_insert_131 : decode cX9_insert 131 = .ok (.ireturn, 1) := by decide +kernel
theorem dX9_insert_132 : decode cX9_insert 132 = .ok (.aload_n 0, 1) := by decide +kernel
theorem dX9_insert_133 : decode cX9_insert 133 = .ok (.getfield 7, 3) := by decide +kernel
theorem dX9_insert_136 : decode cX9_insert 136 = .ok (.iconst 0, 1) := by decide +kernel
theorem dX9_insert_137 : decode cX9_insert 137 = .ok (.iaload, 1) := by decide +kernel
theorem dX9_insert_138 : decode cX9_insert 138 = .ok (.bipush 40, 2) := by decide +kernel
theorem dX9_insert_140 : decode cX9_insert 140 = .ok (.if_icmp .eq 17, 3) := by decide +kernel
theorem dX9_insert_143 : decode cX9_insert 143 = .ok (.iload_n 3, 1) := by decide +kernel
theorem dX9_insert_144 : decode cX9_insert 144 = .ok (.iconst 2, 1) := by decide +kernel
theorem dX9_insert_145 : decode cX9_insert 145 = .ok (.if_icmp .ne 18, 3) := by decide +kernel
theorem dX9_insert_148 : decode cX9_insert 148 = .ok (.aload_n 0, 1) := by decide +kernel
theorem dX9_insert_149 : decode cX9_insert 149 = .ok (.iload 4, 2) := by decide +kernel
theorem dX9_insert_151 : decode cX9_insert 151 = .ok (.invokevirtual 128, 3) := by decide +kernel
theorem dX9_insert_154 : decode cX9_insert 154 = .ok (.ifCond .lt 9, 3) := by decide +kernel
theorem dX9_insert_157 : decode cX9_insert 157 = .ok (.aload_n 0, 1) := by decide +kernel
theorem dX9_insert_158 : decode cX9_insert 158 = .ok (.iconst 3, 1) := by decide +kernel
theorem dX9_insert_159 : decode cX9_insert 159 = .ok (.invokevirtual 93, 3) := by decide +kernel
theorem dX9_insert_162 : decode cX9_insert 162 = .ok (.ireturn, 1) := by decide +kernel
theorem dX9_insert_163 : decode cX9_insert 163 = .ok (.aload_n 0, 1) := by decide +kernel
theorem dX9_insert_164 : decode cX9_insert 164 = .ok (.invokevirtual 131, 3) := by decide +kernel
theorem dX9_insert_167 : decode cX9_insert 167 = .ok (.aload_n 0, 1) := by decide +kernel
theorem dX9_insert_168 : decode cX9_insert 168 = .ok (.iload_n 1, 1) := by decide +kernel
theorem dX9_insert_169 : decode cX9_insert 169 = .ok (.invokevirtual 134, 3) := by decide +kernel
theorem dX9_insert_172 : decode cX9_insert 172 = .ok (.aload_n 0, 1) := by decide +kernel
theorem dX9_insert_173 : decode cX9_insert 173 = .ok (.iload_n 1, 1) := by decide +kernel
theorem dX9_insert_174 : decode cX9_insert 174 = .ok (.iload_n 3, 1) := by decide +kernel
theorem dX9_insert_175 : decode cX9_insert 175 = .ok (.iload 4, 2) := by decide +kernel
theorem dX9_insert_177 : decode cX9_insert 177 = .ok (.iconst 0, 1) := by decide +kernel
theorem dX9_insert_178 : decode cX9_insert 178 = .ok (.invokevirtual 117, 3) := by decide +kernel
theorem dX9_insert_181 : decode cX9_insert 181 = .ok (.aload_n 0, 1) := by decide +kernel
theorem dX9_insert_182 : decode cX9_insert 182 = .ok (.iload_n 3, 1) := by decide +kernel
theorem dX9_insert_183 : decode cX9_insert 183 = .ok (.invokevirtual 90, 3) := by decide +kernel
theorem dX9_insert_186 : decode cX9_insert 186 = .ok (.ireturn, 1) := by decide +kernel
theorem dX9_errorPosition_0 : decode cX9_errorPosition 0 = .ok (.aload_n 0, 1) := by decide +kernel
theorem dX9_errorPosition_1 : decode cX9_errorPosition 1 = .ok (.getfield 23, 3) := by decide +kernel
theorem dX9_errorPosition_4 : decode cX9_errorPosition 4 = .ok (.iconst (-1), 1) := by decide +kernel
theorem dX9_errorPosition_5 : decode cX9_errorPosition 5 = .ok (.if_icmp .ne 11, 3) := by decide +kernel
theorem dX9_errorPosition_8 : decode cX9_errorPosition 8 = .ok (.aload_n 0, 1) := by decide +kernel
theorem dX9_errorPosition_9 : decode cX9_errorPosition 9 = .ok (.iconst 1, 1) := by decide +kernel
theorem dX9_errorPosition_10 : decode cX9_errorPosition 10 = .ok (.invokevirtual 93, 3) := by decide +kernel
theorem dX9_errorPosition_13 : decode cX9_errorPosition 13 = .ok (.goto 11, 3) := by decide +kernel
theorem dX9_errorPosition_16 : decode cX9_errorPosition 16 = .ok (.aload_n 0, 1) := by decide +kernel
theorem dX9_errorPosition_17 : decode cX9_errorPosition 17 = .ok (.aload_n 0, 1) := by decide +kernel
theorem dX9_errorPosition_18 : decode cX9_errorPosition 18 = .ok (.getfield 23, 3) := by decide +kernel
theorem dX9_errorPosition_21 : decode cX9_errorPosition 21 = .ok (.invokevirtual 90, 3) := by decide +kernel
theorem dX9_errorPosition_24 : decode cX9_errorPosition 24 = .ok (.ireturn, 1) := by decide +kernel
theorem dX9_remove_0 : decode cX9_remove 0 = .ok (.aload_n 0, 1) := by decide +kernel
theorem dX9_remove_1 : decode cX9_remove 1 = .ok (.iload_n 1, 1) := by decide +kernel
theorem dX9_remove_2 : decode cX9_remove 2 = .ok (.invokevirtual 137, 3) := by decide +kernel
theorem dX9_remove_5 : decode cX9_remove 5 = .ok (.ifCond .ne 9, 3) := by decide +kernel
theorem dX9_remove_8 : decode cX9_remove 8 = .ok (.aload_n 0, 1) := by decide +kernel
theorem dX9_remove_9 : decode cX9_remove 9 = .ok (.iconst 1, 1) := by decide +kernel
theorem dX9_remove_10 : decode cX9_remove 10 = .ok (.invokevirtual 93, 3) := by decide +kernel
theorem dX9_remove_13 : decode cX9_remove 13 = .ok (.ireturn, 1) := by decide +kernel
theorem dX9_remove_14 : decode cX9_remove 14 = .ok (.aload_n 0, 1) := by decide +kernel
theorem dX9_remove_15 : decode cX9_remove 15 = .ok (.invokevirtual 131, 3) := by decide +kernel
theorem dX9_remove_18 : decode cX9_remove 18 = .ok (.aload_n 0, 1) := by decide +kernel
theorem dX9_remove_19 : decode cX9_remove 19 = .ok (.iload_n 1, 1) := by decide +kernel
theorem dX9_remove_20 : decode cX9_remove 20 = .ok (.invokevirtual 140, 3) := by decide +kernel
theorem dX9_remove_23 : decode cX9_remove 23 = .ok (.aload_n 0, 1) := by decide +kernel
theorem dX9_remove_24 : decode cX9_remove 24 = .ok (.aload_n 0, 1) := by decide +kernel
theorem dX9_remove_25 : decode cX9_remove 25 = .ok (.getfield 7, 3) := by decide +kernel
theorem dX9_remove_28 : decode cX9_remove 28 = .ok (.iconst 0, 1) := by decide +kernel
theorem dX9_remove_29 : decode cX9_remove 29 = .ok (.iaload, 1) := by decide +kernel
theorem dX9_remove_30 : decode cX9_remove 30 = .ok (.invokevirtual 90, 3) := by decide +kernel
theorem dX9_remove_33 : decode cX9_remove 33 = .ok (.ireturn, 1) := by decide +kernel
theorem dX9_move_0 : decode cX9_move 0 = .ok (.aload_n 0, 1) := by decide +kernel
theorem dX9_move_1 : decode cX9_move 1 = .ok (.iload_n 1, 1) := by decide +kernel
theorem dX9_move_2 : decode cX9_move 2 = .ok (.invokevirtual 137, 3) := by decide +kernel
theorem dX9_move_5 : decode cX9_move 5 = .ok (.ifCond .eq 11, 3) := by decide +kernel
theorem dX9_move_8 : decode cX9_move 8 = .ok (.aload_n 0, 1) := by decide +kernel
theorem dX9_move_9 : decode cX9_move 9 = .ok (.iload_n 2, 1) := by decide +kernel
theorem dX9_move_10 : decode cX9_move 10 = .ok (.invokevirtual 137, 3) := by decide +kernel
theorem dX9_move_13 : decode cX9_move 13 = .ok (.ifCond .ne 9, 3) := by decide +kernel
theorem dX9_move_16 : decode cX9_move 16 = .ok (.aload_n 0, 1) := by decide +kernel
theorem dX9_move_17 : decode cX9_move 17 = .ok (.iconst 1, 1) := by decide +kernel
theorem dX9_move_18 : decode cX9_move 18 = .ok (.invokevirtual 93, 3) := by decide +kernel
theorem dX9_move_21 : decode cX9_move 21 = .ok (.ireturn, 1) := by decide +kernel
theorem dX9_move_22 : decode cX9_move 22 = .ok (.aload_n 0, 1) := by decide +kernel
theorem dX9_move_23 : decode cX9_move 23 = .ok (.invokevirtual 131, 3) := by decide +kernel
theorem dX9_move_26 : decode cX9_move 26 = .ok (.aload_n 0, 1) := by decide +kernel
theorem dX9_move_27 : decode cX9_move 27 = .ok (.iload_n 1, 1) := by decide +kernel
theorem dX9_move_28 : decode cX9_move 28 = .ok (.invokevirtual 53, 3) := by decide +kernel
theorem dX9_move_31 : decode cX9_move 31 = .ok (.istore_n 3, 1) := by decide +kernel
theorem dX9_move_32 : decode cX9_move 32 = .ok (.aload_n 0, 1) := by decide +kernel
theorem dX9_move_33 : decode cX9_move 33 = .ok (.iload_n 1, 1) := by decide +kernel
theorem dX9_move_34 : decode cX9_move 34 = .ok (.invokevirtual 63, 3) := by decide +kernel
theorem dX9_move_37 : decode cX9_move 37 = .ok (.istore 4, 2) := by decide +kernel
theorem dX9_move_39 : decode cX9_move 39 = .ok (.aload_n 0, 1) := by decide +kernel
theorem dX9_move_40 : decode cX9_move 40 = .ok (.iload_n 1, 1) := by decide +kernel
theorem dX9_move_41 : decode cX9_move 41 = .ok (.invokevirtual 83, 3) := by decide +kernel
theorem dX9_move_44 : decode cX9_move 44 = .ok (.istore 5, 2) := by decide +kernel
theorem dX9_move_46 : decode cX9_move 46 = .ok (.aload_n 0, 1) := by decide +kernel
theorem dX9_move_47 : decode cX9_move 47 = .ok (.iload_n 1, 1) := by decide +kernel
theorem dX9_move_48 : decode cX9_move 48 = .ok (.invokevirtual 140, 3) := by decide +kernel
theorem dX9_move_51 : decode cX9_move 51 = .ok (.aload_n 0, 1) := by decide +kernel
theorem dX9_move_52 : decode cX9_move 52 = .ok (.iload_n 2, 1) := by decide +kernel
theorem dX9_move_53 : decode cX9_move 53 = .ok (.invokevirtual 134, 3) := by decide +kernel
theorem dX9_move_56 : decode cX9_move 56 = .ok (.aload_n 0, 1) := by decide +kernel
theorem dX9_move_57 : decode cX9_move 57 = .ok (.iload_n 2, 1) := by decide +kernel
theorem dX9_move_58 : decode cX9_move 58 = .ok (.iload_n 3, 1) := by decide +kernel
theorem dX9_move_59 : decode cX9_move 59 = .ok (.iload 4, 2) := by decide +kernel
theorem dX9_move_61 : decode cX9_move 61 = .ok (.iload 5, 2) := by decide +kernel
theorem dX9_move_63 : decode cX9_move 63 = .ok (.invokevirtual 117, 3) := by decide +kernel
theorem dX9_move_66 : decode cX9_move 66 = .ok (.aload_n 0, 1) := by decide +kernel
theorem dX9_move_67 : decode cX9_move 67 = .ok (.iload_n 3, 1) := by decide +kernel
theorem dX9_move_68 : decode cX9_move 68 = .ok (.invokevirtual 90, 3) := by decide +kernel
theorem dX9_move_71 : decode cX9_move 71 = .ok (.ireturn, 1) := by decide +kernel
theorem dX9_item_0 : decode cX9_item 0 = .ok (.aload_n 0, 1) := by decide +kernel
theorem dX9_item_1 : decode cX9_item 1 = .ok (.iload_n 1, 1) := by decide +kernel
theorem dX9_item_2 : decode cX9_item 2 = .ok (.invokevirtual 137, 3) := by decide +kernel
theorem dX9_item_5 : decode cX9_item 5 = .ok (.ifCond .ne 9, 3) := by decide +kernel
theorem dX9_item_8 : decode cX9_item 8 = .ok (.aload_n 0, 1) := by decide +kernel
theorem dX9_item_9 : decode cX9_item 9 = .ok (.iconst 1, 1) := by decide +kernel
theorem dX9_item_10 : decode cX9_item 10 = .ok (.invokevirtual 93, 3) := by decide +kernel
theorem dX9_item_13 : decode cX9_item 13 = .ok (.ireturn, 1) := by decide +kernel
theorem dX9_item_14 : decode cX9_item 14 = .ok (.iload_n 2, 1) := by decide +kernel
theorem dX9_item_15 : decode cX9_item 15 = .ok (.iconst 0, 1) := by decide +kernel
theorem dX9_item_16 : decode cX9_item 16 = .ok (.iconst 4, 1) := by decide +kernel
theorem dX9_item_17 : decode cX9_item 17 = .ok (.invokestatic 49, 3) := by decide +kernel
theorem dX9_item_20 : decode cX9_item 20 = .ok (.ifCond .ne 9, 3) := by decide +kernel
theorem dX9_item_23 : decode cX9_item 23 = .ok (.aload_n 0, 1) := by decide +kernel
theorem dX9_item_24 : decode cX9_item 24 = .ok (.iconst 2, 1) := by decide +kernel
theorem dX9_item_25 : decode cX9_item 25 = .ok (.invokevirtual 93, 3) := by decide +kernel
theorem dX9_item_28 : decode cX9_item 28 = .ok (.ireturn, 1) := by decide +kernel
theorem dX9_item_29 : decode cX9_item 29 = .ok (.aload_n 0, 1) := by decide +kernel
theorem dX9_item_30 : decode cX9_item 30 = .ok (.invokevirtual 143, 3) := by decide +kernel
theorem dX9_item_33 : decode cX9_item 33 = .ok (.aload_n 0, 1) := by decide +kernel
theorem dX9_item_34 : decode cX9_item 34 = .ok (.iload_n 2, 1) := by decide +kernel
theorem dX9_item_35 : decode cX9_item 35 = .ok (.ifCond .ne 11, 3) := by decide +kernel
theorem dX9_item_38 : decode cX9_item 38 = .ok (.aload_n 0, 1) := by decide +kernel
theorem dX9_item_39 : decode cX9_item 39 = .ok (.iload_n 1, 1) := by decide +kernel
theorem dX9_item_40 : decode cX9_item 40 = .ok (.invokevirtual 53, 3) := by decide +kernel
theorem dX9_item_43 : decode cX9_item 43 = .ok (.goto 58, 3) := by decide +kernel
theorem dX9_item_46 : decode cX9_item 46 = .ok (.iload_n 2, 1) := by decide +kernel
theorem dX9_item_47 : decode cX9_item 47 = .ok (.iconst 1, 1) := by decide +kernel
theorem dX9_item_48 : decode cX9_item 48 = .ok (.if_icmp .ne 11, 3) := by decide +kernel
theorem dX9_item_51 : decode cX9_item 51 = .ok (.aload_n 0, 1) := by decide +kernel
theorem dX9_item_52 : decode cX9_item 52 = .ok (.iload_n 1, 1) := by decide +kernel
theorem dX9_item_53 : decode cX9_item 53 = .ok (.invokevirtual 63, 3) := by decide +kernel
theorem dX9_item_56 : decode cX9_item 56 = .ok (.goto 45, 3) := by decide +kernel
theorem dX9_item_59 : decode cX9_item 59 = .ok (.iload_n 2, 1) := by decide +kernel
theorem dX9_item_60 : decode cX9_item 60 = .ok (.iconst 2, 1) := by decide +kernel
theorem dX9_item_61 : decode cX9_item 61 = .ok (.if_icmp .ne 11, 3) := by decide +kernel
theorem dX9_item_64 : decode cX9_item 64 = .ok (.aload_n 0, 1) := by decide +kernel
theorem dX9_item_65 : decode cX9_item 65 = .ok (.iload_n 1, 1) := by decide +kernel
theorem dX9_item_66 : decode cX9_item 66 = .ok (.invokevirtual 83, 3) := by decide +kernel
theorem dX9_item_69 : decode cX9_item 69 = .ok (.goto 32, 3) := by decide +kernel
theorem dX9_item_72 : decode cX9_item 72 = .ok (.iload_n 2, 1) := by decide +kernel
theorem dX9_item_73 : decode cX9_item 73 = .ok (.iconst 3, 1) := by decide +kernel
theorem dX9_item_74 : decode cX9_item 74 = .ok (.if_icmp .ne 21, 3) := by decide +kernel
theorem dX9_item_77 : decode cX9_item 77 = .ok (.aload_n 0, 1) := by decide +kernel
theorem dX9_item_78 : decode cX9_item 78 = .ok (.getfield 27, 3) := by decide +kernel
theorem dX9_item_81 : decode cX9_item 81 = .ok (.iload_n 1, 1) := by decide +kernel
theorem dX9_item_82 : decode cX9_item 82 = .ok (.iconst 1, 1) := by decide +kernel
theorem dX9_item_83 : decode cX9_item 83 = .ok (.iadd, 1) := by decide +kernel
theorem dX9_item_84 : decode cX9_item 84 = .ok (.iaload, 1) := by decide +kernel
theorem dX9_item_85 : decode cX9_item 85 = .ok (.aload_n 0, 1) := by decide +kernel
theorem dX9_item_86 : decode cX9_item 86 = .ok (.getfield 27, 3) := by decide +kernel
theorem dX9_item_89 : decode cX9_item 89 = .ok (.iload_n 1, 1) := by decide +kernel
theorem dX9_item_90 : decode cX9_item 90 = .ok (.iaload, 1) := by decide +kernel
theorem dX9_item_91 : decode cX9_item 91 = .ok (.isub, 1) := by decide +kernel
theorem dX9_item_92 : decode cX9_item 92 = .ok (.goto 9, 3) := by decide +kernel
theorem dX9_item_95 : decode cX9_item 95 = .ok (.aload_n 0, 1) := by decide +kernel
theorem dX9_item_96 : decode cX9_item 96 = .ok (.getfield 27, 3) := by decide +kernel
theorem dX9_item_99 : decode cX9_item 99 = .ok (.iload_n 1, 1) := by decide +kernel
theorem dX9_item_100 : decode cX9_item 100 = .ok (.iaload, 1) := by decide +kernel
theorem dX9_item_101 : decode cX9_item 101 = .ok (.invokevirtual 90, 3) := by decide +kernel
theorem dX9_item_104 : decode cX9_item 104 = .ok (.ireturn, 1) := by decide +kernel
theorem dX9_nameCharacter_0 : decode cX9_nameCharacter 0 = .ok (.aload_n 0, 1) := by decide +kernel
theorem dX9_nameCharacter_1 : decode cX9_nameCharacter 1 = .ok (.aload_n 0, 1) := by decide +kernel
theorem dX9_nameCharacter_2 : decode cX9_nameCharacter 2 = .ok (.iload_n 1, 1) := by decide +kernel
theorem dX9_nameCharacter_3 : decode cX9_nameCharacter 3 = .ok (.invokevirtual 137, 3) := by decide +kernel
theorem dX9_nameCharacter_6 : decode cX9_nameCharacter 6 = .ok (.ifCond .ne 7, 3) := by decide +kernel
theorem dX9_nameCharacter_9 : decode cX9_nameCharacter 9 = .ok (.iconst 1, 1) := by decide +kernel
theorem dX9_nameCharacter_10 : decode cX9_nameCharacter 10 = .ok (.goto 4, 3) := by decide +kernel
theorem dX9_nameCharacter_13 : decode cX9_nameCharacter 13 = .ok (.iconst 0, 1) := by decide +kernel
theorem dX9_nameCharacter_14 : decode cX9_nameCharacter 14 = .ok (.putfield 46, 3) := by decide +kernel
theorem dX9_nameCharacter_17 : decode cX9_nameCharacter 17 = .ok (.aload_n 0, 1) := by decide +kernel
theorem dX9_nameCharacter_18 : decode cX9_nameCharacter 18 = .ok (.getfield 46, 3) := by decide +kernel
theorem dX9_nameCharacter_21 : decode cX9_nameCharacter 21 = .ok (.ifCond .eq 5, 3) := by decide +kernel
theorem dX9_nameCharacter_24 : decode cX9_nameCharacter 24 = .ok (.iconst 0, 1) := by decide +kernel
theorem dX9_nameCharacter_25 : decode cX9_nameCharacter 25 = .ok (.ireturn, 1) := by decide +kernel
theorem dX9_nameCharacter_26 : decode cX9_nameCharacter 26 = .ok (.aload_n 0, 1) := by decide +kernel
theorem dX9_nameCharacter_27 : decode cX9_nameCharacter 27 = .ok (.iload_n 2, 1) := by decide +kernel
theorem dX9_nameCharacter_28 : decode cX9_nameCharacter 28 = .ok (.iconst 0, 1) := by decide +kernel
theorem dX9_nameCharacter_29 : decode cX9_nameCharacter 29 = .ok (.aload_n 0, 1) := by decide +kernel
theorem dX9_nameCharacter_30 : decode cX9_nameCharacter 30 = .ok (.aload_n 0, 1) := by decide +kernel
theorem dX9_nameCharacter_31 : decode cX9_nameCharacter 31 = .ok (.iload_n 1, 1) := by decide +kernel
theorem dX9_nameCharacter_32 : decode cX9_nameCharacter 32 = .ok (.invokevirtual 53, 3) := by decide +kernel
theorem dX9_nameCharacter_35 : decode cX9_nameCharacter 35 = .ok (.invokevirtual 99, 3) := by decide +kernel
theorem dX9_nameCharacter_38 : decode cX9_nameCharacter 38 = .ok (.iconst 1, 1) := by decide +kernel
theorem dX9_nameCharacter_39 : decode cX9_nameCharacter 39 = .ok (.isub, 1) := by decide +kernel
end
section
theorem dX9_nameCharacter_40 : decode cX9_nameCharacter 40 = .ok (.invokestatic 49, 3) := by decide +kernel
theorem dX9_nameCharacter_43 : decode cX9_nameCharacter 43 = .ok (.ifCond .eq 7, 3) := by decide +kernel
theorem dX9_nameCharacter_46 : decode cX9_nameCharacter 46 = .ok (.iconst 0, 1) := by decide +kernel
theorem dX9_nameCharacter_47 : decode cX9_nameCharacter 47 = .ok (.goto 4, 3) := by decide +kernel
theorem dX9_nameCharacter_50 : decode cX9_nameCharacter 50 = .ok (.iconst 2, 1) := by decide +kernel
theorem dX9_nameCharacter_51 : decode cX9_nameCharacter 51 = .ok (.putfield 46, 3) := by decide +kernel
theorem dX9_nameCharacter_54 : decode cX9_nameCharacter 54 = .ok (.aload_n 0, 1) := by decide +kernel
theorem dX9_nameCharacter_55 : decode cX9_nameCharacter 55 = .ok (.getfield 46, 3) := by decide +kernel
theorem dX9_nameCharacter_58 : decode cX9_nameCharacter 58 = .ok (.ifCond .eq 7, 3) := by decide +kernel
theorem dX9_nameCharacter_61 : decode cX9_nameCharacter 61 = .ok (.iconst 0, 1) := by decide +kernel
theorem dX9_nameCharacter_62 : decode cX9_nameCharacter 62 = .ok (.goto 19, 3) := by decide +kernel
theorem dX9_nameCharacter_65 : decode cX9_nameCharacter 65 = .ok (.aload_n 0, 1) := by decide +kernel
theorem dX9_nameCharacter_66 : decode cX9_nameCharacter 66 = .ok (.getfield 33, 3) := by decide +kernel
theorem dX9_nameCharacter_69 : decode cX9_nameCharacter 69 = .ok (.bipush 6, 2) := by decide +kernel
theorem dX9_nameCharacter_71 : decode cX9_nameCharacter 71 = .ok (.aload_n 0, 1) := by decide +kernel
theorem dX9_nameCharacter_72 : decode cX9_nameCharacter 72 = .ok (.iload_n 1, 1) := by decide +kernel
theorem dX9_nameCharacter_73 : decode cX9_nameCharacter 73 = .ok (.invokevirtual 53, 3) := by decide +kernel
theorem dX9_nameCharacter_76 : decode cX9_nameCharacter 76 = .ok (.imul, 1) := by decide +kernel
theorem dX9_nameCharacter_77 : decode cX9_nameCharacter 77 = .ok (.iload_n 2, 1) := by decide +kernel
theorem dX9_nameCharacter_78 : decode cX9_nameCharacter 78 = .ok (.iadd, 1) := by decide +kernel
theorem dX9_nameCharacter_79 : decode cX9_nameCharacter 79 = .ok (.iaload, 1) := by decide +kernel
theorem dX9_nameCharacter_80 : decode cX9_nameCharacter 80 = .ok (.i2c, 1) := by decide +kernel
theorem dX9_nameCharacter_81 : decode cX9_nameCharacter 81 = .ok (.ireturn, 1) := by decide +kernel
theorem dX9_setForm_0 : decode cX9_setForm 0 = .ok (.aload_n 0, 1) := by decide +kernel
theorem dX9_setForm_1 : decode cX9_setForm 1 = .ok (.iload_n 1, 1) := by decide +kernel
theorem dX9_setForm_2 : decode cX9_setForm 2 = .ok (.invokevirtual 137, 3) := by decide +kernel
theorem dX9_setForm_5 : decode cX9_setForm 5 = .ok (.ifCond .ne 9, 3) := by decide +kernel
theorem dX9_setForm_8 : decode cX9_setForm 8 = .ok (.aload_n 0, 1) := by decide +kernel
theorem dX9_setForm_9 : decode cX9_setForm 9 = .ok (.iconst 1, 1) := by decide +kernel
theorem dX9_setForm_10 : decode cX9_setForm 10 = .ok (.invokevirtual 93, 3) := by decide +kernel
theorem dX9_setForm_13 : decode cX9_setForm 13 = .ok (.ireturn, 1) := by decide +kernel
theorem dX9_setForm_14 : decode cX9_setForm 14 = .ok (.aload_n 0, 1) := by decide +kernel
theorem dX9_setForm_15 : decode cX9_setForm 15 = .ok (.iload_n 1, 1) := by decide +kernel
theorem dX9_setForm_16 : decode cX9_setForm 16 = .ok (.invokevirtual 146, 3) := by decide +kernel
theorem dX9_setForm_19 : decode cX9_setForm 19 = .ok (.ifCond .eq 12, 3) := by decide +kernel
theorem dX9_setForm_22 : decode cX9_setForm 22 = .ok (.iload_n 2, 1) := by decide +kernel
theorem dX9_setForm_23 : decode cX9_setForm 23 = .ok (.iconst 0, 1) := by decide +kernel
theorem dX9_setForm_24 : decode cX9_setForm 24 = .ok (.iconst 2, 1) := by decide +kernel
theorem dX9_setForm_25 : decode cX9_setForm 25 = .ok (.invokestatic 49, 3) := by decide +kernel
theorem dX9_setForm_28 : decode cX9_setForm 28 = .ok (.ifCond .ne 9, 3) := by decide +kernel
theorem dX9_setForm_31 : decode cX9_setForm 31 = .ok (.aload_n 0, 1) := by decide +kernel
theorem dX9_setForm_32 : decode cX9_setForm 32 = .ok (.iconst 2, 1) := by decide +kernel
theorem dX9_setForm_33 : decode cX9_setForm 33 = .ok (.invokevirtual 93, 3) := by decide +kernel
theorem dX9_setForm_36 : decode cX9_setForm 36 = .ok (.ireturn, 1) := by decide +kernel
theorem dX9_setForm_37 : decode cX9_setForm 37 = .ok (.aload_n 0, 1) := by decide +kernel
theorem dX9_setForm_38 : decode cX9_setForm 38 = .ok (.invokevirtual 131, 3) := by decide +kernel
theorem dX9_setForm_41 : decode cX9_setForm 41 = .ok (.aload_n 0, 1) := by decide +kernel
theorem dX9_setForm_42 : decode cX9_setForm 42 = .ok (.iload_n 1, 1) := by decide +kernel
theorem dX9_setForm_43 : decode cX9_setForm 43 = .ok (.invokevirtual 83, 3) := by decide +kernel
theorem dX9_setForm_46 : decode cX9_setForm 46 = .ok (.istore_n 3, 1) := by decide +kernel
theorem dX9_setForm_47 : decode cX9_setForm 47 = .ok (.aload_n 0, 1) := by decide +kernel
theorem dX9_setForm_48 : decode cX9_setForm 48 = .ok (.iload_n 1, 1) := by decide +kernel
theorem dX9_setForm_49 : decode cX9_setForm 49 = .ok (.iload_n 2, 1) := by decide +kernel
theorem dX9_setForm_50 : decode cX9_setForm 50 = .ok (.invokevirtual 113, 3) := by decide +kernel
theorem dX9_setForm_53 : decode cX9_setForm 53 = .ok (.aload_n 0, 1) := by decide +kernel
theorem dX9_setForm_54 : decode cX9_setForm 54 = .ok (.iload_n 3, 1) := by decide +kernel
theorem dX9_setForm_55 : decode cX9_setForm 55 = .ok (.invokevirtual 90, 3) := by decide +kernel
theorem dX9_setForm_58 : decode cX9_setForm 58 = .ok (.ireturn, 1) := by decide +kernel
theorem dX9_totalSize_0 : decode cX9_totalSize 0 = .ok (.aload_n 0, 1) := by decide +kernel
theorem dX9_totalSize_1 : decode cX9_totalSize 1 = .ok (.invokevirtual 143, 3) := by decide +kernel
theorem dX9_totalSize_4 : decode cX9_totalSize 4 = .ok (.aload_n 0, 1) := by decide +kernel
theorem dX9_totalSize_5 : decode cX9_totalSize 5 = .ok (.aload_n 0, 1) := by decide +kernel
theorem dX9_totalSize_6 : decode cX9_totalSize 6 = .ok (.invokevirtual 149, 3) := by decide +kernel
theorem dX9_totalSize_9 : decode cX9_totalSize 9 = .ok (.invokevirtual 90, 3) := by decide +kernel
theorem dX9_totalSize_12 : decode cX9_totalSize 12 = .ok (.ireturn, 1) := by decide +kernel
theorem dX9_padding_0 : decode cX9_padding 0 = .ok (.aload_n 0, 1) := by decide +kernel
theorem dX9_padding_1 : decode cX9_padding 1 = .ok (.invokevirtual 143, 3) := by decide +kernel
theorem dX9_padding_4 : decode cX9_padding 4 = .ok (.iconst 0, 1) := by decide +kernel
theorem dX9_padding_5 : decode cX9_padding 5 = .ok (.istore_n 1, 1) := by decide +kernel
theorem dX9_padding_6 : decode cX9_padding 6 = .ok (.iconst 0, 1) := by decide +kernel
theorem dX9_padding_7 : decode cX9_padding 7 = .ok (.istore_n 2, 1) := by decide +kernel
theorem dX9_padding_8 : decode cX9_padding 8 = .ok (.iload_n 2, 1) := by decide +kernel
theorem dX9_padding_9 : decode cX9_padding 9 = .ok (.aload_n 0, 1) := by decide +kernel
theorem dX9_padding_10 : decode cX9_padding 10 = .ok (.getfield 7, 3) := by decide +kernel
theorem dX9_padding_13 : decode cX9_padding 13 = .ok (.iconst 0, 1) := by decide +kernel
theorem dX9_padding_14 : decode cX9_padding 14 = .ok (.iaload, 1) := by decide +kernel
theorem dX9_padding_15 : decode cX9_padding 15 = .ok (.if_icmp .gt 82, 3) := by decide +kernel
theorem dX9_padding_18 : decode cX9_padding 18 = .ok (.iload_n 2, 1) := by decide +kernel
theorem dX9_padding_19 : decode cX9_padding 19 = .ok (.aload_n 0, 1) := by decide +kernel
theorem dX9_padding_20 : decode cX9_padding 20 = .ok (.getfield 7, 3) := by decide +kernel
theorem dX9_padding_23 : decode cX9_padding 23 = .ok (.iconst 0, 1) := by decide +kernel
theorem dX9_padding_24 : decode cX9_padding 24 = .ok (.iaload, 1) := by decide +kernel
theorem dX9_padding_25 : decode cX9_padding 25 = .ok (.if_icmp .eq 13, 3) := by decide +kernel
theorem dX9_padding_28 : decode cX9_padding 28 = .ok (.aload_n 0, 1) := by decide +kernel
theorem dX9_padding_29 : decode cX9_padding 29 = .ok (.iload_n 2, 1) := by decide +kernel
theorem dX9_padding_30 : decode cX9_padding 30 = .ok (.invokevirtual 53, 3) := by decide +kernel
theorem dX9_padding_33 : decode cX9_padding 33 = .ok (.bipush 7, 2) := by decide +kernel
theorem dX9_padding_35 : decode cX9_padding 35 = .ok (.if_icmp .ne 29, 3) := by decide +kernel
theorem dX9_padding_38 : decode cX9_padding 38 = .ok (.aload_n 0, 1) := by decide +kernel
theorem dX9_padding_39 : decode cX9_padding 39 = .ok (.iload_n 2, 1) := by decide +kernel
theorem dX9_padding_40 : decode cX9_padding 40 = .ok (.aload_n 0, 1) := by decide +kernel
theorem dX9_padding_41 : decode cX9_padding 41 = .ok (.getfield 27, 3) := by decide +kernel
theorem dX9_padding_44 : decode cX9_padding 44 = .ok (.iload_n 2, 1) := by decide +kernel
theorem dX9_padding_45 : decode cX9_padding 45 = .ok (.iaload, 1) := by decide +kernel
theorem dX9_padding_46 : decode cX9_padding 46 = .ok (.invokevirtual 80, 3) := by decide +kernel
theorem dX9_padding_49 : decode cX9_padding 49 = .ok (.istore_n 3, 1) := by decide +kernel
theorem dX9_padding_50 : decode cX9_padding 50 = .ok (.iload_n 1, 1) := by decide +kernel
theorem dX9_padding_51 : decode cX9_padding 51 = .ok (.iload_n 3, 1) := by decide +kernel
theorem dX9_padding_52 : decode cX9_padding 52 = .ok (.iconst 4, 1) := by decide +kernel
theorem dX9_padding_53 : decode cX9_padding 53 = .ok (.aload_n 0, 1) := by decide +kernel
theorem dX9_padding_54 : decode cX9_padding 54 = .ok (.getfield 60, 3) := by decide +kernel
theorem dX9_padding_57 : decode cX9_padding 57 = .ok (.imul, 1) := by decide +kernel
theorem dX9_padding_58 : decode cX9_padding 58 = .ok (.isub, 1) := by decide +kernel
theorem dX9_padding_59 : decode cX9_padding 59 = .ok (.iadd, 1) := by decide +kernel
theorem dX9_padding_60 : decode cX9_padding 60 = .ok (.istore_n 1, 1) := by decide +kernel
theorem dX9_padding_61 : decode cX9_padding 61 = .ok (.goto 30, 3) := by decide +kernel
theorem dX9_padding_64 : decode cX9_padding 64 = .ok (.aload_n 0, 1) := by decide +kernel
theorem dX9_padding_65 : decode cX9_padding 65 = .ok (.iload_n 2, 1) := by decide +kernel
theorem dX9_padding_66 : decode cX9_padding 66 = .ok (.invokevirtual 53, 3) := by decide +kernel
theorem dX9_padding_69 : decode cX9_padding 69 = .ok (.iconst 3, 1) := by decide +kernel
theorem dX9_padding_70 : decode cX9_padding 70 = .ok (.if_icmp .ne 21, 3) := by decide +kernel
theorem dX9_padding_73 : decode cX9_padding 73 = .ok (.iload_n 1, 1) := by decide +kernel
theorem dX9_padding_74 : decode cX9_padding 74 = .ok (.aload_n 0, 1) := by decide +kernel
theorem dX9_padding_75 : decode cX9_padding 75 = .ok (.getfield 27, 3) := by decide +kernel
theorem dX9_padding_78 : decode cX9_padding 78 = .ok (.iload_n 2, 1) := by decide +kernel
theorem dX9_padding_79 : decode cX9_padding 79 = .ok (.iconst 1, 1) := by decide +kernel
theorem dX9_padding_80 : decode cX9_padding 80 = .ok (.iadd, 1) := by decide +kernel
theorem dX9_padding_81 : decode cX9_padding 81 = .ok (.iaload, 1) := by decide +kernel
theorem dX9_padding_82 : decode cX9_padding 82 = .ok (.aload_n 0, 1) := by decide +kernel
theorem dX9_padding_83 : decode cX9_padding 83 = .ok (.getfield 27, 3) := by decide +kernel
theorem dX9_padding_86 : decode cX9_padding 86 = .ok (.iload_n 2, 1) := by decide +kernel
theorem dX9_padding_87 : decode cX9_padding 87 = .ok (.iaload, 1) := by decide +kernel
theorem dX9_padding_88 : decode cX9_padding 88 = .ok (.isub, 1) := by decide +kernel
theorem dX9_padding_89 : decode cX9_padding 89 = .ok (.iadd, 1) := by decide +kernel
theorem dX9_padding_90 : decode cX9_padding 90 = .ok (.istore_n 1, 1) := by decide +kernel
theorem dX9_padding_91 : decode cX9_padding 91 = .ok (.iinc 2 1, 3) := by decide +kernel
theorem dX9_padding_94 : decode cX9_padding 94 = .ok (.goto (-86), 3) := by decide +kernel
theorem dX9_padding_97 : decode cX9_padding 97 = .ok (.aload_n 0, 1) := by decide +kernel
theorem dX9_padding_98 : decode cX9_padding 98 = .ok (.iload_n 1, 1) := by decide +kernel
theorem dX9_padding_99 : decode cX9_padding 99 = .ok (.invokevirtual 90, 3) := by decide +kernel
theorem dX9_padding_102 : decode cX9_padding 102 = .ok (.ireturn, 1) := by decide +kernel
theorem dX9_labelAddress_0 : decode cX9_labelAddress 0 = .ok (.iload_n 1, 1) := by decide +kernel
theorem dX9_labelAddress_1 : decode cX9_labelAddress 1 = .ok (.iconst 0, 1) := by decide +kernel
theorem dX9_labelAddress_2 : decode cX9_labelAddress 2 = .ok (.bipush 9, 2) := by decide +kernel
theorem dX9_labelAddress_4 : decode cX9_labelAddress 4 = .ok (.invokestatic 49, 3) := by decide +kernel
theorem dX9_labelAddress_7 : decode cX9_labelAddress 7 = .ok (.ifCond .ne 9, 3) := by decide +kernel
theorem dX9_labelAddress_10 : decode cX9_labelAddress 10 = .ok (.aload_n 0, 1) := by decide +kernel
theorem dX9_labelAddress_11 : decode cX9_labelAddress 11 = .ok (.iconst 1, 1) := by decide +kernel
theorem dX9_labelAddress_12 : decode cX9_labelAddress 12 = .ok (.invokevirtual 93, 3) := by decide +kernel
theorem dX9_labelAddress_15 : decode cX9_labelAddress 15 = .ok (.ireturn, 1) := by decide +kernel
theorem dX9_labelAddress_16 : decode cX9_labelAddress 16 = .ok (.aload_n 0, 1) := by decide +kernel
theorem dX9_labelAddress_17 : decode cX9_labelAddress 17 = .ok (.iload_n 1, 1) := by decide +kernel
theorem dX9_labelAddress_18 : decode cX9_labelAddress 18 = .ok (.invokevirtual 128, 3) := by decide +kernel
theorem dX9_labelAddress_21 : decode cX9_labelAddress 21 = .ok (.istore_n 2, 1) := by decide +kernel
theorem dX9_labelAddress_22 : decode cX9_labelAddress 22 = .ok (.iload_n 2, 1) := by decide +kernel
theorem dX9_labelAddress_23 : decode cX9_labelAddress 23 = .ok (.iconst (-1), 1) := by decide +kernel
theorem dX9_labelAddress_24 : decode cX9_labelAddress 24 = .ok (.if_icmp .ne 9, 3) := by decide +kernel
theorem dX9_labelAddress_27 : decode cX9_labelAddress 27 = .ok (.aload_n 0, 1) := by decide +kernel
theorem dX9_labelAddress_28 : decode cX9_labelAddress 28 = .ok (.iconst 2, 1) := by decide +kernel
theorem dX9_labelAddress_29 : decode cX9_labelAddress 29 = .ok (.invokevirtual 93, 3) := by decide +kernel
theorem dX9_labelAddress_32 : decode cX9_labelAddress 32 = .ok (.ireturn, 1) := by decide +kernel
theorem dX9_labelAddress_33 : decode cX9_labelAddress 33 = .ok (.aload_n 0, 1) := by decide +kernel
theorem dX9_labelAddress_34 : decode cX9_labelAddress 34 = .ok (.invokevirtual 143, 3) := by decide +kernel
theorem dX9_labelAddress_37 : decode cX9_labelAddress 37 = .ok (.aload_n 0, 1) := by decide +kernel
theorem dX9_labelAddress_38 : decode cX9_labelAddress 38 = .ok (.aload_n 0, 1) := by decide +kernel
theorem dX9_labelAddress_39 : decode cX9_labelAddress 39 = .ok (.getfield 27, 3) := by decide +kernel
theorem dX9_labelAddress_42 : decode cX9_labelAddress 42 = .ok (.iload_n 2, 1) := by decide +kernel
theorem dX9_labelAddress_43 : decode cX9_labelAddress 43 = .ok (.iaload, 1) := by decide +kernel
theorem dX9_labelAddress_44 : decode cX9_labelAddress 44 = .ok (.invokevirtual 90, 3) := by decide +kernel
theorem dX9_labelAddress_47 : decode cX9_labelAddress 47 = .ok (.ireturn, 1) := by decide +kernel
theorem dX9_itemAt_0 : decode cX9_itemAt 0 = .ok (.aload_n 0, 1) := by decide +kernel
theorem dX9_itemAt_1 : decode cX9_itemAt 1 = .ok (.invokevirtual 143, 3) := by decide +kernel
theorem dX9_itemAt_4 : decode cX9_itemAt 4 = .ok (.iload_n 1, 1) := by decide +kernel
theorem dX9_itemAt_5 : decode cX9_itemAt 5 = .ok (.iconst 0, 1) := by decide +kernel
theorem dX9_itemAt_6 : decode cX9_itemAt 6 = .ok (.aload_n 0, 1) := by decide +kernel
theorem dX9_itemAt_7 : decode cX9_itemAt 7 = .ok (.getfield 27, 3) := by decide +kernel
theorem dX9_itemAt_10 : decode cX9_itemAt 10 = .ok (.aload_n 0, 1) := by decide +kernel
theorem dX9_itemAt_11 : decode cX9_itemAt 11 = .ok (.getfield 7, 3) := by decide +kernel
theorem dX9_itemAt_14 : decode cX9_itemAt 14 = .ok (.iconst 0, 1) := by decide +kernel
theorem dX9_itemAt_15 : decode cX9_itemAt 15 = .ok (.iaload, 1) := by decide +kernel
theorem dX9_itemAt_16 : decode cX9_itemAt 16 = .ok (.iaload, 1) := by decide +kernel
theorem dX9_itemAt_17 : decode cX9_itemAt 17 = .ok (.iconst 1, 1) := by decide +kernel
theorem dX9_itemAt_18 : decode cX9_itemAt 18 = .ok (.isub, 1) := by decide +kernel
theorem dX9_itemAt_19 : decode cX9_itemAt 19 = .ok (.invokestatic 49, 3) := by decide +kernel
theorem dX9_itemAt_22 : decode cX9_itemAt 22 = .ok (.ifCond .ne 9, 3) := by decide +kernel
theorem dX9_itemAt_25 : decode cX9_itemAt 25 = .ok (.aload_n 0, 1) := by decide +kernel
theorem dX9_itemAt_26 : decode cX9_itemAt 26 = .ok (.iconst 1, 1) := by decide +kernel
theorem dX9_itemAt_27 : decode cX9_itemAt 27 = .ok (.invokevirtual 93, 3) := by decide +kernel
theorem dX9_itemAt_30 : decode cX9_itemAt 30 = .ok (.ireturn, 1) := by decide +kernel
theorem dX9_itemAt_31 : decode cX9_itemAt 31 = .ok (.aload_n 0, 1) := by decide +kernel
theorem dX9_itemAt_32 : decode cX9_itemAt 32 = .ok (.getfield 7, 3) := by decide +kernel
theorem dX9_itemAt_35 : decode cX9_itemAt 35 = .ok (.iconst 0, 1) := by decide +kernel
theorem dX9_itemAt_36 : decode cX9_itemAt 36 = .ok (.iaload, 1) := by decide +kernel
theorem dX9_itemAt_37 : decode cX9_itemAt 37 = .ok (.iconst 1, 1) := by decide +kernel
theorem dX9_itemAt_38 : decode cX9_itemAt 38 = .ok (.isub, 1) := by decide +kernel
theorem dX9_itemAt_39 : decode cX9_itemAt 39 = .ok (.istore_n 2, 1) := by decide +kernel
theorem dX9_itemAt_40 : decode cX9_itemAt 40 = .ok (.aload_n 0, 1) := by decide +kernel
theorem dX9_itemAt_41 : decode cX9_itemAt 41 = .ok (.getfield 27, 3) := by decide +kernel
theorem dX9_itemAt_44 : decode cX9_itemAt 44 = .ok (.iload_n 2, 1) := by decide +kernel
theorem dX9_itemAt_45 : decode cX9_itemAt 45 = .ok (.iaload, 1) := by decide +kernel
theorem dX9_itemAt_46 : decode cX9_itemAt 46 = .ok (.iload_n 1, 1) := by decide +kernel
theorem dX9_itemAt_47 : decode cX9_itemAt 47 = .ok (.if_icmp .le 9, 3) := by decide +kernel
theorem dX9_itemAt_50 : decode cX9_itemAt 50 = .ok (.iinc 2 (-1), 3) := by decide +kernel
theorem dX9_itemAt_53 : decode cX9_itemAt 53 = .ok (.goto (-13), 3) := by decide +kernel
theorem dX9_itemAt_56 : decode cX9_itemAt 56 = .ok (.aload_n 0, 1) := by decide +kernel
theorem dX9_itemAt_57 : decode cX9_itemAt 57 = .ok (.iload_n 2, 1) := by decide +kernel
theorem dX9_itemAt_58 : decode cX9_itemAt 58 = .ok (.invokevirtual 90, 3) := by decide +kernel
theorem dX9_itemAt_61 : decode cX9_itemAt 61 = .ok (.ireturn, 1) := by decide +kernel
theorem dX9_addressIf_0 : decode cX9_addressIf 0 = .ok (.aload_n 0, 1) := by decide +kernel
theorem dX9_addressIf_1 : decode cX9_addressIf 1 = .ok (.iload_n 1, 1) := by decide +kernel
theorem dX9_addressIf_2 : decode cX9_addressIf 2 = .ok (.invokevirtual 137, 3) := by decide +kernel
theorem dX9_addressIf_5 : decode cX9_addressIf 5 = .ok (.ifCond .ne 9, 3) := by decide +kernel
theorem dX9_addressIf_8 : decode cX9_addressIf 8 = .ok (.aload_n 0, 1) := by decide +kernel
theorem dX9_addressIf_9 : decode cX9_addressIf 9 = .ok (.iconst 1, 1) := by decide +kernel
theorem dX9_addressIf_10 : decode cX9_addressIf 10 = .ok (.invokevirtual 93, 3) := by decide +kernel
theorem dX9_addressIf_13 : decode cX9_addressIf 13 = .ok (.ireturn, 1) := by decide +kernel
theorem dX9_addressIf_14 : decode cX9_addressIf 14 = .ok (.iload_n 2, 1) := by decide +kernel
theorem dX9_addressIf_15 : decode cX9_addressIf 15 = .ok (.iconst 0, 1) := by decide +kernel
theorem dX9_addressIf_16 : decode cX9_addressIf 16 = .ok (.iconst 2, 1) := by decide +kernel
theorem dX9_addressIf_17 : decode cX9_addressIf 17 = .ok (.invokestatic 49, 3) := by decide +kernel
theorem dX9_addressIf_20 : decode cX9_addressIf 20 = .ok (.ifCond .ne 9, 3) := by decide +kernel
theorem dX9_addressIf_23 : decode cX9_addressIf 23 = .ok (.aload_n 0, 1) := by decide +kernel
theorem dX9_addressIf_24 : decode cX9_addressIf 24 = .ok (.iconst 2, 1) := by decide +kernel
theorem dX9_addressIf_25 : decode cX9_addressIf 25 = .ok (.invokevirtual 93, 3) := by decide +kernel
theorem dX9_addressIf_28 : decode cX9_addressIf 28 = .ok (.ireturn, 1) := by decide +kernel
theorem dX9_addressIf_29 : decode cX9_addressIf 29 = .ok (.iconst 0, 1) := by decide +kernel
theorem dX9_addressIf_30 : decode cX9_addressIf 30 = .ok (.istore_n 3, 1) := by decide +kernel
theorem dX9_addressIf_31 : decode cX9_addressIf 31 = .ok (.iconst 0, 1) := by decide +kernel
theorem dX9_addressIf_32 : decode cX9_addressIf 32 = .ok (.istore 4, 2) := by decide +kernel
theorem dX9_addressIf_34 : decode cX9_addressIf 34 = .ok (.iload 4, 2) := by decide +kernel
theorem dX9_addressIf_36 : decode cX9_addressIf 36 = .ok (.iload_n 1, 1) := by decide +kernel
theorem dX9_addressIf_37 : decode cX9_addressIf 37 = .ok (.if_icmp .ge 20, 3) := by decide +kernel
theorem dX9_addressIf_40 : decode cX9_addressIf 40 = .ok (.iload_n 3, 1) := by decide +kernel
theorem dX9_addressIf_41 : decode cX9_addressIf 41 = .ok (.aload_n 0, 1) := by decide +kernel
theorem dX9_addressIf_42 : decode cX9_addressIf 42 = .ok (.iload 4, 2) := by decide +kernel
theorem dX9_addressIf_44 : decode cX9_addressIf 44 = .ok (.iload_n 3, 1) := by decide +kernel
theorem dX9_addressIf_45 : decode cX9_addressIf 45 = .ok (.iload_n 2, 1) := by decide +kernel
theorem dX9_addressIf_46 : decode cX9_addressIf 46 = .ok (.invokevirtual 86, 3) := by decide +kernel
theorem dX9_addressIf_49 : decode cX9_addressIf 49 = .ok (.iadd, 1) := by decide +kernel
theorem dX9_addressIf_50 : decode cX9_addressIf 50 = .ok (.istore_n 3, 1) := by decide +kernel
theorem dX9_addressIf_51 : decode cX9_addressIf 51 = .ok (.iinc 4 1, 3) := by decide +kernel
theorem dX9_addressIf_54 : decode cX9_addressIf 54 = .ok (.goto (-20), 3) := by decide +kernel
theorem dX9_addressIf_57 : decode cX9_addressIf 57 = .ok (.aload_n 0, 1) := by decide +kernel
theorem dX9_addressIf_58 : decode cX9_addressIf 58 = .ok (.iload_n 3, 1) := by decide +kernel
theorem dX9_addressIf_59 : decode cX9_addressIf 59 = .ok (.invokevirtual 90, 3) := by decide +kernel
theorem dX9_addressIf_62 : decode cX9_addressIf 62 = .ok (.ireturn, 1) := by decide +kernel
theorem dX9_goesOn_0 : decode cX9_goesOn 0 = .ok (.iconst 0, 1) := by decide +kernel
theorem dX9_goesOn_1 : decode cX9_goesOn 1 = .ok (.istore_n 2, 1) := by decide +kernel
theorem dX9_goesOn_2 : decode cX9_goesOn 2 = .ok (.iload_n 2, 1) := by decide +kernel
theorem dX9_goesOn_3 : decode cX9_goesOn 3 = .ok (.sipush 3000, 3) := by decide +kernel
theorem dX9_goesOn_6 : decode cX9_goesOn 6 = .ok (.if_icmp .ge 16, 3) := by decide +kernel
theorem dX9_goesOn_9 : decode cX9_goesOn 9 = .ok (.aload_n 0, 1) := by decide +kernel
theorem dX9_goesOn_10 : decode cX9_goesOn 10 = .ok (.getfield 40, 3) := by decide +kernel
theorem dX9_goesOn_13 : decode cX9_goesOn 13 = .ok (.iload_n 2, 1) := by decide +kernel
theorem dX9_goesOn_14 : decode cX9_goesOn 14 = .ok (.iconst 0, 1) := by decide +kernel
theorem dX9_goesOn_15 : decode cX9_goesOn 15 = .ok (.bastore, 1) := by decide +kernel
theorem dX9_goesOn_16 : decode cX9_goesOn 16 = .ok (.iinc 2 1, 3) := by decide +kernel
theorem dX9_goesOn_19 : decode cX9_goesOn 19 = .ok (.goto (-17), 3) := by decide +kernel
theorem dX9_goesOn_22 : decode cX9_goesOn 22 = .ok (.iconst 0, 1) := by decide +kernel
theorem dX9_goesOn_23 : decode cX9_goesOn 23 = .ok (.istore_n 2, 1) := by decide +kernel
theorem dX9_goesOn_24 : decode cX9_goesOn 24 = .ok (.iload_n 2, 1) := by decide +kernel
theorem dX9_goesOn_25 : decode cX9_goesOn 25 = .ok (.sipush 2900, 3) := by decide +kernel
theorem dX9_goesOn_28 : decode cX9_goesOn 28 = .ok (.if_icmp .ge 46, 3) := by decide +kernel
theorem dX9_goesOn_31 : decode cX9_goesOn 31 = .ok (.iconst 0, 1) := by decide +kernel
theorem dX9_goesOn_32 : decode cX9_goesOn 32 = .ok (.istore_n 3, 1) := by decide +kernel
theorem dX9_goesOn_33 : decode cX9_goesOn 33 = .ok (.iload_n 3, 1) := by decide +kernel
theorem dX9_goesOn_34 : decode cX9_goesOn 34 = .ok (.iconst 3, 1) := by decide +kernel
theorem dX9_goesOn_35 : decode cX9_goesOn 35 = .ok (.if_icmp .ge 33, 3) := by decide +kernel
theorem dX9_goesOn_38 : decode cX9_goesOn 38 = .ok (.aload_n 0, 1) := by decide +kernel
theorem dX9_goesOn_39 : decode cX9_goesOn 39 = .ok (.getfield 36, 3) := by decide +kernel
theorem dX9_goesOn_42 : decode cX9_goesOn 42 = .ok (.iload_n 2, 1) := by decide +kernel
theorem dX9_goesOn_43 : decode cX9_goesOn 43 = .ok (.baload, 1) := by decide +kernel
theorem dX9_goesOn_44 : decode cX9_goesOn 44 = .ok (.ifCond .eq 24, 3) := by decide +kernel
theorem dX9_goesOn_47 : decode cX9_goesOn 47 = .ok (.aload_n 0, 1) := by decide +kernel
theorem dX9_goesOn_48 : decode cX9_goesOn 48 = .ok (.getfield 40, 3) := by decide +kernel
theorem dX9_goesOn_51 : decode cX9_goesOn 51 = .ok (.iload_n 2, 1) := by decide +kernel
theorem dX9_goesOn_52 : decode cX9_goesOn 52 = .ok (.aload_n 0, 1) := by decide +kernel
theorem dX9_goesOn_53 : decode cX9_goesOn 53 = .ok (.iload_n 1, 1) := by decide +kernel
theorem dX9_goesOn_54 : decode cX9_goesOn 54 = .ok (.iload_n 2, 1) := by decide +kernel
theorem dX9_goesOn_55 : decode cX9_goesOn 55 = .ok (.iload_n 3, 1) := by decide +kernel
theorem dX9_goesOn_56 : decode cX9_goesOn 56 = .ok (.invokevirtual 86, 3) := by decide +kernel
theorem dX9_goesOn_59 : decode cX9_goesOn 59 = .ok (.iadd, 1) := by decide +kernel
theorem dX9_goesOn_60 : decode cX9_goesOn 60 = .ok (.iconst 1, 1) := by decide +kernel
theorem dX9_goesOn_61 : decode cX9_goesOn 61 = .ok (.bastore, 1) := by decide +kernel
theorem dX9_goesOn_62 : decode cX9_goesOn 62 = .ok (.iinc 3 1, 3) := by decide +kernel
theorem dX9_goesOn_65 : decode cX9_goesOn 65 = .ok (.goto (-32), 3) := by decide +kernel
theorem dX9_goesOn_68 : decode cX9_goesOn 68 = .ok (.iinc 2 1, 3) := by decide +kernel
theorem dX9_goesOn_71 : decode cX9_goesOn 71 = .ok (.goto (-47), 3) := by decide +kernel
theorem dX9_goesOn_74 : decode cX9_goesOn 74 = .ok (.iconst 0, 1) := by decide +kernel
theorem dX9_goesOn_75 : decode cX9_goesOn 75 = .ok (.istore_n 2, 1) := by decide +kernel
theorem dX9_goesOn_76 : decode cX9_goesOn 76 = .ok (.iload_n 2, 1) := by decide +kernel
theorem dX9_goesOn_77 : decode cX9_goesOn 77 = .ok (.sipush 3000, 3) := by decide +kernel
theorem dX9_goesOn_80 : decode cX9_goesOn 80 = .ok (.if_icmp .ge 21, 3) := by decide +kernel
theorem dX9_goesOn_83 : decode cX9_goesOn 83 = .ok (.aload_n 0, 1) := by decide +kernel
theorem dX9_goesOn_84 : decode cX9_goesOn 84 = .ok (.getfield 36, 3) := by decide +kernel
theorem dX9_goesOn_87 : decode cX9_goesOn 87 = .ok (.iload_n 2, 1) := by decide +kernel
theorem dX9_goesOn_88 : decode cX9_goesOn 88 = .ok (.aload_n 0, 1) := by decide +kernel
theorem dX9_goesOn_89 : decode cX9_goesOn 89 = .ok (.getfield 40, 3) := by decide +kernel
theorem dX9_goesOn_92 : decode cX9_goesOn 92 = .ok (.iload_n 2, 1) := by decide +kernel
theorem dX9_goesOn_93 : decode cX9_goesOn 93 = .ok (.baload, 1) := by decide +kernel
theorem dX9_goesOn_94 : decode cX9_goesOn 94 = .ok (.bastore, 1) := by decide +kernel
theorem dX9_goesOn_95 : decode cX9_goesOn 95 = .ok (.iinc 2 1, 3) := by decide +kernel
theorem dX9_goesOn_98 : decode cX9_goesOn 98 = .ok (.goto (-22), 3) := by decide +kernel
theorem dX9_goesOn_101 : decode cX9_goesOn 101 = .ok (.return_, 1) := by decide +kernel
theorem dX9_possibleAddresses_0 : decode cX9_possibleAddresses 0 = .ok (.aload_n 0, 1) := by decide +kernel
theorem dX9_possibleAddresses_1 : decode cX9_possibleAddresses 1 = .ok (.iload_n 1, 1) := by decide +kernel
theorem dX9_possibleAddresses_2 : decode cX9_possibleAddresses 2 = .ok (.invokevirtual 137, 3) := by decide +kernel
theorem dX9_possibleAddresses_5 : decode cX9_possibleAddresses 5 = .ok (.ifCond .ne 9, 3) := by decide +kernel
theorem dX9_possibleAddresses_8 : decode cX9_possibleAddresses 8 = .ok (.aload_n 0, 1) := by decide +kernel
theorem dX9_possibleAddresses_9 : decode cX9_possibleAddresses 9 = .ok (.iconst 1, 1) := by decide +kernel
theorem dX9_possibleAddresses_10 : decode cX9_possibleAddresses 10 = .ok (.invokevirtual 93, 3) := by decide +kernel
theorem dX9_possibleAddresses_13 : decode cX9_possibleAddresses 13 = .ok (.ireturn, 1) := by decide +kernel
theorem dX9_possibleAddresses_14 : decode cX9_possibleAddresses 14 = .ok (.iconst 0, 1) := by decide +kernel
theorem dX9_possibleAddresses_15 : decode cX9_possibleAddresses 15 = .ok (.istore_n 2, 1) := by decide +kernel
theorem dX9_possibleAddresses_16 : decode cX9_possibleAddresses 16 = .ok (.iload_n 2, 1) := by decide +kernel
theorem dX9_possibleAddresses_17 : decode cX9_possibleAddresses 17 = .ok (.sipush 3000, 3) := by decide +kernel
theorem dX9_possibleAddresses_20 : decode cX9_possibleAddresses 20 = .ok (.if_icmp .ge 24, 3) := by decide +kernel
theorem dX9_possibleAddresses_23 : decode cX9_possibleAddresses 23 = .ok (.aload_n 0, 1) := by decide +kernel
theorem dX9_possibleAddresses_24 : decode cX9_possibleAddresses 24 = .ok (.getfield 36, 3) := by decide +kernel
theorem dX9_possibleAddresses_27 : decode cX9_possibleAddresses 27 = .ok (.iload_n 2, 1) := by decide +kernel
theorem dX9_possibleAddresses_28 : decode cX9_possibleAddresses 28 = .ok (.iload_n 2, 1) := by decide +kernel
theorem dX9_possibleAddresses_29 : decode cX9_possibleAddresses 29 = .ok (.ifCond .ne 7, 3) := by decide +kernel
theorem dX9_possibleAddresses_32 : decode cX9_possibleAddresses 32 = .ok (.iconst 1, 1) := by decide +kernel
theorem dX9_possibleAddresses_33 : decode cX9_possibleAddresses 33 = .ok (.goto 4, 3) := by decide +kernel
theorem dX9_possibleAddresses_36 : decode cX9_possibleAddresses 36 = .ok (.iconst 0, 1) := by decide +kernel
theorem dX9_possibleAddresses_37 : decode cX9_possibleAddresses 37 = .ok (.bastore, 1) := by decide +kernel
theorem dX9_possibleAddresses_38 : decode cX9_possibleAddresses 38 = .ok (.iinc 2 1, 3) := by decide +kernel
theorem dX9_possibleAddresses_41 : decode cX9_possibleAddresses 41 = .ok (.goto (-25), 3) := by decide +kernel
theorem dX9_possibleAddresses_44 : decode cX9_possibleAddresses 44 = .ok (.iconst 0, 1) := by decide +kernel
theorem dX9_possibleAddresses_45 : decode cX9_possibleAddresses 45 = .ok (.istore_n 2, 1) := by decide +kernel
theorem dX9_possibleAddresses_46 : decode cX9_possibleAddresses 46 = .ok (.iload_n 2, 1) := by decide +kernel
theorem dX9_possibleAddresses_47 : decode cX9_possibleAddresses 47 = .ok (.iload_n 1, 1) := by decide +kernel
theorem dX9_possibleAddresses_48 : decode cX9_possibleAddresses 48 = .ok (.if_icmp .ge 14, 3) := by decide +kernel
theorem dX9_possibleAddresses_51 : decode cX9_possibleAddresses 51 = .ok (.aload_n 0, 1) := by decide +kernel
theorem dX9_possibleAddresses_52 : decode cX9_possibleAddresses 52 = .ok (.iload_n 2, 1) := by decide +kernel
theorem dX9_possibleAddresses_53 : decode cX9_possibleAddresses 53 = .ok (.invokevirtual 153, 3) := by decide +kernel
theorem dX9_possibleAddresses_56 : decode cX9_possibleAddresses 56 = .ok (.iinc 2 1, 3) := by decide +kernel
theorem dX9_possibleAddresses_59 : decode cX9_possibleAddresses 59 = .ok (.goto (-13), 3) := by decide +kernel
theorem dX9_possibleAddresses_62 : decode cX9_possibleAddresses 62 = .ok (.iconst 0, 1) := by decide +kernel
theorem dX9_possibleAddresses_63 : decode cX9_possibleAddresses 63 = .ok (.istore_n 2, 1) := by decide +kernel
theorem dX9_possibleAddresses_64 : decode cX9_possibleAddresses 64 = .ok (.iconst 0, 1) := by decide +kernel
theorem dX9_possibleAddresses_65 : decode cX9_possibleAddresses 65 = .ok (.istore_n 3, 1) := by decide +kernel
theorem dX9_possibleAddresses_66 : decode cX9_possibleAddresses 66 = .ok (.iload_n 3, 1) := by decide +kernel
theorem dX9_possibleAddresses_67 : decode cX9_possibleAddresses 67 = .ok (.sipush 3000, 3) := by decide +kernel
theorem dX9_possibleAddresses_70 : decode cX9_possibleAddresses 70 = .ok (.if_icmp .ge 26, 3) := by decide +kernel
theorem dX9_possibleAddresses_73 : decode cX9_possibleAddresses 73 = .ok (.iload_n 2, 1) := by decide +kernel
theorem dX9_possibleAddresses_74 : decode cX9_possibleAddresses 74 = .ok (.aload_n 0, 1) := by decide +kernel
theorem dX9_possibleAddresses_75 : decode cX9_possibleAddresses 75 = .ok (.getfield 36, 3) := by decide +kernel
theorem dX9_possibleAddresses_78 : decode cX9_possibleAddresses 78 = .ok (.iload_n 3, 1) := by decide +kernel
theorem dX9_possibleAddresses_79 : decode cX9_possibleAddresses 79 = .ok (.baload, 1) := by decide +kernel
theorem dX9_possibleAddresses_80 : decode cX9_possibleAddresses 80 = .ok (.ifCond .eq 7, 3) := by decide +kernel
theorem dX9_possibleAddresses_83 : decode cX9_possibleAddresses 83 = .ok (.iconst 1, 1) := by decide +kernel
theorem dX9_possibleAddresses_84 : decode cX9_possibleAddresses 84 = .ok (.goto 4, 3) := by decide +kernel
theorem dX9_possibleAddresses_87 : decode cX9_possibleAddresses 87 = .ok (.iconst 0, 1) := by decide +kernel
theorem dX9_possibleAddresses_88 : decode cX9_possibleAddresses 88 = .ok (.iadd, 1) := by decide +kernel
theorem dX9_possibleAddresses_89 : decode cX9_possibleAddresses 89 = .ok (.istore_n 2, 1) := by decide +kernel
theorem dX9_possibleAddresses_90 : decode cX9_possibleAddresses 90 = .ok (.iinc 3 1, 3) := by decide +kernel
theorem dX9_possibleAddresses_93 : decode cX9_possibleAddresses 93 = .ok (.goto (-27), 3) := by decide +kernel
theorem dX9_possibleAddresses_96 : decode cX9_possibleAddresses 96 = .ok (.aload_n 0, 1) := by decide +kernel
theorem dX9_possibleAddresses_97 : decode cX9_possibleAddresses 97 = .ok (.iload_n 2, 1) := by decide +kernel
theorem dX9_possibleAddresses_98 : decode cX9_possibleAddresses 98 = .ok (.invokevirtual 90, 3) := by decide +kernel
theorem dX9_possibleAddresses_101 : decode cX9_possibleAddresses 101 = .ok (.ireturn, 1) := by decide +kernel
theorem dX9_transfers_0 : decode cX9_transfers 0 = .ok (.iconst 0, 1) := by decide +kernel
theorem dX9_transfers_1 : decode cX9_transfers 1 = .ok (.istore_n 1, 1) := by decide +kernel
theorem dX9_transfers_2 : decode cX9_transfers 2 = .ok (.iconst 0, 1) := by decide +kernel
theorem dX9_transfers_3 : decode cX9_transfers 3 = .ok (.istore_n 2, 1) := by decide +kernel
theorem dX9_transfers_4 : decode cX9_transfers 4 = .ok (.iload_n 2, 1) := by decide +kernel
theorem dX9_transfers_5 : decode cX9_transfers 5 = .ok (.aload_n 0, 1) := by decide +kernel
theorem dX9_transfers_6 : decode cX9_transfers 6 = .ok (.getfield 7, 3) := by decide +kernel
theorem dX9_transfers_9 : decode cX9_transfers 9 = .ok (.iconst 0, 1) := by decide +kernel
theorem dX9_transfers_10 : decode cX9_transfers 10 = .ok (.iaload, 1) := by decide +kernel
theorem dX9_transfers_11 : decode cX9_transfers 11 = .ok (.if_icmp .ge 25, 3) := by decide +kernel
theorem dX9_transfers_14 : decode cX9_transfers 14 = .ok (.iload_n 1, 1) := by decide +kernel
theorem dX9_transfers_15 : decode cX9_transfers 15 = .ok (.aload_n 0, 1) := by decide +kernel
theorem dX9_transfers_16 : decode cX9_transfers 16 = .ok (.iload_n 2, 1) := by decide +kernel
theorem dX9_transfers_17 : decode cX9_transfers 17 = .ok (.invokevirtual 146, 3) := by decide +kernel
theorem dX9_transfers_20 : decode cX9_transfers 20 = .ok (.ifCond .eq 7, 3) := by decide +kernel
theorem dX9_transfers_23 : decode cX9_transfers 23 = .ok (.iconst 1, 1) := by decide +kernel
theorem dX9_transfers_24 : decode cX9_transfers 24 = .ok (.goto 4, 3) := by decide +kernel
theorem dX9_transfers_27 : decode cX9_transfers 27 = .ok (.iconst 0, 1) := by decide +kernel
theorem dX9_transfers_28 : decode cX9_transfers 28 = .ok (.iadd, 1) := by decide +kernel
theorem dX9_transfers_29 : decode cX9_transfers 29 = .ok (.istore_n 1, 1) := by decide +kernel
theorem dX9_transfers_30 : decode cX9_transfers 30 = .ok (.iinc 2 1, 3) := by decide +kernel
theorem dX9_transfers_33 : decode cX9_transfers 33 = .ok (.goto (-29), 3) := by decide +kernel
theorem dX9_transfers_36 : decode cX9_transfers 36 = .ok (.iload_n 1, 1) := by decide +kernel
theorem dX9_transfers_37 : decode cX9_transfers 37 = .ok (.ireturn, 1) := by decide +kernel
theorem dX9_transferCount_0 : decode cX9_transferCount 0 = .ok (.aload_n 0, 1) := by decide +kernel
theorem dX9_transferCount_1 : decode cX9_transferCount 1 = .ok (.aload_n 0, 1) := by decide +kernel
theorem dX9_transferCount_2 : decode cX9_transferCount 2 = .ok (.invokevirtual 156, 3) := by decide +kernel
theorem dX9_transferCount_5 : decode cX9_transferCount 5 = .ok (.invokevirtual 90, 3) := by decide +kernel
theorem dX9_transferCount_8 : decode cX9_transferCount 8 = .ok (.ireturn, 1) := by decide +kernel
theorem dX9_formCount_0 : decode cX9_formCount 0 = .ok (.iload_n 1, 1) := by decide +kernel
theorem dX9_formCount_1 : decode cX9_formCount 1 = .ok (.iconst 0, 1) := by decide +kernel
theorem dX9_formCount_2 : decode cX9_formCount 2 = .ok (.iconst 2, 1) := by decide +kernel
theorem dX9_formCount_3 : decode cX9_formCount 3 = .ok (.invokestatic 49, 3) := by decide +kernel
theorem dX9_formCount_6 : decode cX9_formCount 6 = .ok (.ifCond .ne 9, 3) := by decide +kernel
theorem dX9_formCount_9 : decode cX9_formCount 9 = .ok (.aload_n 0, 1) := by decide +kernel
theorem dX9_formCount_10 : decode cX9_formCount 10 = .ok (.iconst 1, 1) := by decide +kernel
theorem dX9_formCount_11 : decode cX9_formCount 11 = .ok (.invokevirtual 93, 3) := by decide +kernel
theorem dX9_formCount_14 : decode cX9_formCount 14 = .ok (.ireturn, 1) := by decide +kernel
theorem dX9_formCount_15 : decode cX9_formCount 15 = .ok (.iconst 0, 1) := by decide +kernel
theorem dX9_formCount_16 : decode cX9_formCount 16 = .ok (.istore_n 2, 1) := by decide +kernel
theorem dX9_formCount_17 : decode cX9_formCount 17 = .ok (.iconst 0, 1) := by decide +kernel
theorem dX9_formCount_18 : decode cX9_formCount 18 = .ok (.istore_n 3, 1) := by decide +kernel
theorem dX9_formCount_19 : decode cX9_formCount 19 = .ok (.iload_n 3, 1) := by decide +kernel
theorem dX9_formCount_20 : decode cX9_formCount 20 = .ok (.aload_n 0, 1) := by decide +kernel
theorem dX9_formCount_21 : decode cX9_formCount 21 = .ok (.getfield 7, 3) := by decide +kernel
theorem dX9_formCount_24 : decode cX9_formCount 24 = .ok (.iconst 0, 1) := by decide +kernel
theorem dX9_formCount_25 : decode cX9_formCount 25 = .ok (.iaload, 1) := by decide +kernel
theorem dX9_formCount_26 : decode cX9_formCount 26 = .ok (.if_icmp .ge 34, 3) := by decide +kernel
theorem dX9_formCount_29 : decode cX9_formCount 29 = .ok (.iload_n 2, 1) := by decide +kernel
theorem dX9_formCount_30 : decode cX9_formCount 30 = .ok (.aload_n 0, 1) := by decide +kernel
theorem dX9_formCount_31 : decode cX9_formCount 31 = .ok (.iload_n 3, 1) := by decide +kernel
theorem dX9_formCount_32 : decode cX9_formCount 32 = .ok (.invokevirtual 146, 3) := by decide +kernel
theorem dX9_formCount_35 : decode cX9_formCount 35 = .ok (.ifCond .eq 16, 3) := by decide +kernel
theorem dX9_formCount_38 : decode cX9_formCount 38 = .ok (.aload_n 0, 1) := by decide +kernel
theorem dX9_formCount_39 : decode cX9_formCount 39 = .ok (.iload_n 3, 1) := by decide +kernel
theorem dX9_formCount_40 : decode cX9_formCount 40 = .ok (.invokevirtual 83, 3) := by decide +kernel
theorem dX9_formCount_43 : decode cX9_formCount 43 = .ok (.iload_n 1, 1) := by decide +kernel
theorem dX9_formCount_44 : decode cX9_formCount 44 = .ok (.if_icmp .ne 7, 3) := by decide +kernel
theorem dX9_formCount_47 : decode cX9_formCount 47 = .ok (.iconst 1, 1) := by decide +kernel
theorem dX9_formCount_48 : decode cX9_formCount 48 = .ok (.goto 4, 3) := by decide +kernel
theorem dX9_formCount_51 : decode cX9_formCount 51 = .ok (.iconst 0, 1) := by decide +kernel
theorem dX9_formCount_52 : decode cX9_formCount 52 = .ok (.iadd, 1) := by decide +kernel
theorem dX9_formCount_53 : decode cX9_formCount 53 = .ok (.istore_n 2, 1) := by decide +kernel
theorem dX9_formCount_54 : decode cX9_formCount 54 = .ok (.iinc 3 1, 3) := by decide +kernel
theorem dX9_formCount_57 : decode cX9_formCount 57 = .ok (.goto (-38), 3) := by decide +kernel
theorem dX9_formCount_60 : decode cX9_formCount 60 = .ok (.aload_n 0, 1) := by decide +kernel
theorem dX9_formCount_61 : decode cX9_formCount 61 = .ok (.iload_n 2, 1) := by decide +kernel
theorem dX9_formCount_62 : decode cX9_formCount 62 = .ok (.invokevirtual 90, 3) := by decide +kernel
theorem dX9_formCount_65 : decode cX9_formCount 65 = .ok (.ireturn, 1) := by decide +kernel
theorem dX9_undefined_0 : decode cX9_undefined 0 = .ok (.iconst 0, 1) := by decide +kernel
theorem dX9_undefined_1 : decode cX9_undefined 1 = .ok (.istore_n 1, 1) := by decide +kernel
theorem dX9_undefined_2 : decode cX9_undefined 2 = .ok (.iconst 0, 1) := by decide +kernel
theorem dX9_undefined_3 : decode cX9_undefined 3 = .ok (.istore_n 2, 1) := by decide +kernel
theorem dX9_undefined_4 : decode cX9_undefined 4 = .ok (.iload_n 2, 1) := by decide +kernel
theorem dX9_undefined_5 : decode cX9_undefined 5 = .ok (.aload_n 0, 1) := by decide +kernel
theorem dX9_undefined_6 : decode cX9_undefined 6 = .ok (.getfield 7, 3) := by decide +kernel
theorem dX9_undefined_9 : decode cX9_undefined 9 = .ok (.iconst 0, 1) := by decide +kernel
theorem dX9_undefined_10 : decode cX9_undefined 10 = .ok (.iaload, 1) := by decide +kernel
theorem dX9_undefined_11 : decode cX9_undefined 11 = .ok (.if_icmp .ge 38, 3) := by decide +kernel
theorem dX9_undefined_14 : decode cX9_undefined 14 = .ok (.iload_n 1, 1) := by decide +kernel
theorem dX9_undefined_15 : decode cX9_undefined 15 = .ok (.aload_n 0, 1) := by decide +kernel
theorem dX9_undefined_16 : decode cX9_undefined 16 = .ok (.iload_n 2, 1) := by decide +kernel
theorem dX9_undefined_17 : decode cX9_undefined 17 = .ok (.invokevirtual 146, 3) := by decide +kernel
theorem dX9_undefined_20 : decode cX9_undefined 20 = .ok (.ifCond .eq 20, 3) := by decide +kernel
theorem dX9_undefined_23 : decode cX9_undefined 23 = .ok (.aload_n 0, 1) := by decide +kernel
theorem dX9_undefined_24 : decode cX9_undefined 24 = .ok (.aload_n 0, 1) := by decide +kernel
theorem dX9_undefined_25 : decode cX9_undefined 25 = .ok (.iload_n 2, 1) := by decide +kernel
theorem dX9_undefined_26 : decode cX9_undefined 26 = .ok (.invokevirtual 63, 3) := by decide +kernel
theorem dX9_undefined_29 : decode cX9_undefined 29 = .ok (.invokevirtual 128, 3) := by decide +kernel
theorem dX9_undefined_32 : decode cX9_undefined 32 = .ok (.iconst (-1), 1) := by decide +kernel
theorem dX9_undefined_33 : decode cX9_undefined 33 = .ok (.if_icmp .ne 7, 3) := by decide +kernel
theorem dX9_undefined_36 : decode cX9_undefined 36 = .ok (.iconst 1, 1) := by decide +kernel
theorem dX9_undefined_37 : decode cX9_undefined 37 = .ok (.goto 4, 3) := by decide +kernel
theorem dX9_undefined_40 : decode cX9_undefined 40 = .ok (.iconst 0, 1) := by decide +kernel
theorem dX9_undefined_41 : decode cX9_undefined 41 = .ok (.iadd, 1) := by decide +kernel
theorem dX9_undefined_42 : decode cX9_undefined 42 = .ok (.istore_n 1, 1) := by decide +kernel
theorem dX9_undefined_43 : decode cX9_undefined 43 = .ok (.iinc 2 1, 3) := by decide +kernel
theorem dX9_undefined_46 : decode cX9_undefined 46 = .ok (.goto (-42), 3) := by decide +kernel
theorem dX9_undefined_49 : decode cX9_undefined 49 = .ok (.iload_n 1, 1) := by decide +kernel
theorem dX9_undefined_50 : decode cX9_undefined 50 = .ok (.ireturn, 1) := by decide +kernel
theorem dX9_undefinedCount_0 : decode cX9_undefinedCount 0 = .ok (.aload_n 0, 1) := by decide +kernel
theorem dX9_undefinedCount_1 : decode cX9_undefinedCount 1 = .ok (.aload_n 0, 1) := by decide +kernel
theorem dX9_undefinedCount_2 : decode cX9_undefinedCount 2 = .ok (.invokevirtual 159, 3) := by decide +kernel
theorem dX9_undefinedCount_5 : decode cX9_undefinedCount 5 = .ok (.invokevirtual 90, 3) := by decide +kernel
theorem dX9_undefinedCount_8 : decode cX9_undefinedCount 8 = .ok (.ireturn, 1) := by decide +kernel
theorem dX9_off_0 : decode cX9_off 0 = .ok (.aload_n 0, 1) := by decide +kernel
theorem dX9_off_1 : decode cX9_off 1 = .ok (.getfield 27, 3) := by decide +kernel
theorem dX9_off_4 : decode cX9_off 4 = .ok (.aload_n 0, 1) := by decide +kernel
theorem dX9_off_5 : decode cX9_off 5 = .ok (.aload_n 0, 1) := by decide +kernel
theorem dX9_off_6 : decode cX9_off 6 = .ok (.iload_n 1, 1) := by decide +kernel
theorem dX9_off_7 : decode cX9_off 7 = .ok (.invokevirtual 63, 3) := by decide +kernel
theorem dX9_off_10 : decode cX9_off 10 = .ok (.invokevirtual 128, 3) := by decide +kernel
theorem dX9_off_13 : decode cX9_off 13 = .ok (.iaload, 1) := by decide +kernel
theorem dX9_off_14 : decode cX9_off 14 = .ok (.aload_n 0, 1) := by decide +kernel
theorem dX9_off_15 : decode cX9_off 15 = .ok (.getfield 27, 3) := by decide +kernel
theorem dX9_off_18 : decode cX9_off 18 = .ok (.iload_n 1, 1) := by decide +kernel
theorem dX9_off_19 : decode cX9_off 19 = .ok (.iconst 1, 1) := by decide +kernel
theorem dX9_off_20 : decode cX9_off 20 = .ok (.iadd, 1) := by decide +kernel
theorem dX9_off_21 : decode cX9_off 21 = .ok (.iaload, 1) := by decide +kernel
theorem dX9_off_22 : decode cX9_off 22 = .ok (.isub, 1) := by decide +kernel
theorem dX9_off_23 : decode cX9_off 23 = .ok (.ireturn, 1) := by decide +kernel
theorem dX9_needed_0 : decode cX9_needed 0 = .ok (.iload_n 0, 1) := by decide +kernel
theorem dX9_needed_1 : decode cX9_needed 1 = .ok (.bipush (-16), 2) := by decide +kernel
theorem dX9_needed_3 : decode cX9_needed 3 = .ok (.bipush 15, 2) := by decide +kernel
theorem dX9_needed_5 : decode cX9_needed 5 = .ok (.invokestatic 49, 3) := by decide +kernel
theorem dX9_needed_8 : decode cX9_needed 8 = .ok (.ifCond .eq 7, 3) := by decide +kernel
theorem dX9_needed_11 : decode cX9_needed 11 = .ok (.iconst 0, 1) := by decide +kernel
theorem dX9_needed_12 : decode cX9_needed 12 = .ok (.goto 19, 3) := by decide +kernel
theorem dX9_needed_15 : decode cX9_needed 15 = .ok (.iload_n 0, 1) := by decide +kernel
theorem dX9_needed_16 : decode cX9_needed 16 = .ok (.bipush (-100), 2) := by decide +kernel
theorem dX9_needed_18 : decode cX9_needed 18 = .ok (.bipush 99, 2) := by decide +kernel
theorem dX9_needed_20 : decode cX9_needed 20 = .ok (.invokestatic 49, 3) := by decide +kernel
theorem dX9_needed_23 : decode cX9_needed 23 = .ok (.ifCond .eq 7, 3) := by decide +kernel
theorem dX9_needed_26 : decode cX9_needed 26 = .ok (.iconst 1, 1) := by decide +kernel
theorem dX9_needed_27 : decode cX9_needed 27 = .ok (.goto 4, 3) := by decide +kernel
theorem dX9_needed_30 : decode cX9_needed 30 = .ok (.iconst 2, 1) := by decide +kernel
theorem dX9_needed_31 : decode cX9_needed 31 = .ok (.ireturn, 1) := by decide +kernel
theorem dX9_isFit_0 : decode cX9_isFit 0 = .ok (.aload_n 0, 1) := by decide +kernel
theorem dX9_isFit_1 : decode cX9_isFit 1 = .ok (.iload_n 1, 1) := by decide +kernel
theorem dX9_isFit_2 : decode cX9_isFit 2 = .ok (.invokevirtual 83, 3) := by decide +kernel
theorem dX9_isFit_5 : decode cX9_isFit 5 = .ok (.iconst 2, 1) := by decide +kernel
theorem dX9_isFit_6 : decode cX9_isFit 6 = .ok (.if_icmp .eq 19, 3) := by decide +kernel
theorem dX9_isFit_9 : decode cX9_isFit 9 = .ok (.aload_n 0, 1) := by decide +kernel
theorem dX9_isFit_10 : decode cX9_isFit 10 = .ok (.iload_n 1, 1) := by decide +kernel
theorem dX9_isFit_11 : decode cX9_isFit 11 = .ok (.invokevirtual 162, 3) := by decide +kernel
theorem dX9_isFit_14 : decode cX9_isFit 14 = .ok (.invokestatic 165, 3) := by decide +kernel
theorem dX9_isFit_17 : decode cX9_isFit 17 = .ok (.aload_n 0, 1) := by decide +kernel
theorem dX9_isFit_18 : decode cX9_isFit 18 = .ok (.iload_n 1, 1) := by decide +kernel
theorem dX9_isFit_19 : decode cX9_isFit 19 = .ok (.invokevirtual 83, 3) := by decide +kernel
theorem dX9_isFit_22 : decode cX9_isFit 22 = .ok (.if_icmp .gt 7, 3) := by decide +kernel
theorem dX9_isFit_25 : decode cX9_isFit 25 = .ok (.iconst 1, 1) := by decide +kernel
theorem dX9_isFit_26 : decode cX9_isFit 26 = .ok (.goto 4, 3) := by decide +kernel
theorem dX9_isFit_29 : decode cX9_isFit 29 = .ok (.iconst 0, 1) := by decide +kernel
theorem dX9_isFit_30 : decode cX9_isFit 30 = .ok (.ireturn, 1) := by decide +kernel
theorem dX9_lacks_0 : decode cX9_lacks 0 = .ok (.aload_n 0, 1) := by decide +kernel
theorem dX9_lacks_1 : decode cX9_lacks 1 = .ok (.iload_n 1, 1) := by decide +kernel
theorem dX9_lacks_2 : decode cX9_lacks 2 = .ok (.invokevirtual 137, 3) := by decide +kernel
theorem dX9_lacks_5 : decode cX9_lacks 5 = .ok (.ifCond .ne 5, 3) := by decide +kernel
theorem dX9_lacks_8 : decode cX9_lacks 8 = .ok (.iconst 1, 1) := by decide +kernel
theorem dX9_lacks_9 : decode cX9_lacks 9 = .ok (.ireturn, 1) := by decide +kernel
theorem dX9_lacks_10 : decode cX9_lacks 10 = .ok (.aload_n 0, 1) := by decide +kernel
theorem dX9_lacks_11 : decode cX9_lacks 11 = .ok (.invokevirtual 143, 3) := by decide +kernel
theorem dX9_lacks_14 : decode cX9_lacks 14 = .ok (.aload_n 0, 1) := by decide +kernel
theorem dX9_lacks_15 : decode cX9_lacks 15 = .ok (.iload_n 1, 1) := by decide +kernel
theorem dX9_lacks_16 : decode cX9_lacks 16 = .ok (.invokevirtual 146, 3) := by decide +kernel
theorem dX9_lacks_19 : decode cX9_lacks 19 = .ok (.ifCond .ne 7, 3) := by decide +kernel
theorem dX9_lacks_22 : decode cX9_lacks 22 = .ok (.iconst 2, 1) := by decide +kernel
theorem dX9_lacks_23 : decode cX9_lacks 23 = .ok (.goto 21, 3) := by decide +kernel
theorem dX9_lacks_26 : decode cX9_lacks 26 = .ok (.aload_n 0, 1) := by decide +kernel
theorem dX9_lacks_27 : decode cX9_lacks 27 = .ok (.aload_n 0, 1) := by decide +kernel
theorem dX9_lacks_28 : decode cX9_lacks 28 = .ok (.iload_n 1, 1) := by decide +kernel
theorem dX9_lacks_29 : decode cX9_lacks 29 = .ok (.invokevirtual 63, 3) := by decide +kernel
theorem dX9_lacks_32 : decode cX9_lacks 32 = .ok (.invokevirtual 128, 3) := by decide +kernel
theorem dX9_lacks_35 : decode cX9_lacks 35 = .ok (.iconst (-1), 1) := by decide +kernel
theorem dX9_lacks_36 : decode cX9_lacks 36 = .ok (.if_icmp .ne 7, 3) := by decide +kernel
theorem dX9_lacks_39 : decode cX9_lacks 39 = .ok (.iconst 3, 1) := by decide +kernel
theorem dX9_lacks_40 : decode cX9_lacks 40 = .ok (.goto 4, 3) := by decide +kernel
theorem dX9_lacks_43 : decode cX9_lacks 43 = .ok (.iconst 0, 1) := by decide +kernel
theorem dX9_lacks_44 : decode cX9_lacks 44 = .ok (.ireturn, 1) := by decide +kernel
theorem dX9_displacement_0 : decode cX9_displacement 0 = .ok (.aload_n 0, 1) := by decide +kernel
theorem dX9_displacement_1 : decode cX9_displacement 1 = .ok (.iload_n 1, 1) := by decide +kernel
theorem dX9_displacement_2 : decode cX9_displacement 2 = .ok (.invokevirtual 168, 3) := by decide +kernel
theorem dX9_displacement_5 : decode cX9_displacement 5 = .ok (.istore_n 2, 1) := by decide +kernel
theorem dX9_displacement_6 : decode cX9_displacement 6 = .ok (.iload_n 2, 1) := by decide +kernel
theorem dX9_displacement_7 : decode cX9_displacement 7 = .ok (.ifCond .eq 11, 3) := by decide +kernel
theorem dX9_displacement_10 : decode cX9_displacement 10 = .ok (.aload_n 0, 1) := by decide +kernel
theorem dX9_displacement_11 : decode cX9_displacement 11 = .ok (.iload_n 2, 1) := by decide +kernel
theorem dX9_displacement_12 : decode cX9_displacement 12 = .ok (.invokevirtual 93, 3) := by decide +kernel
theorem dX9_displacement_15 : decode cX9_displacement 15 = .ok (.goto 12, 3) := by decide +kernel
theorem dX9_displacement_18 : decode cX9_displacement 18 = .ok (.aload_n 0, 1) := by decide +kernel
theorem dX9_displacement_19 : decode cX9_displacement 19 = .ok (.aload_n 0, 1) := by decide +kernel
theorem dX9_displacement_20 : decode cX9_displacement 20 = .ok (.iload_n 1, 1) := by decide +kernel
theorem dX9_displacement_21 : decode cX9_displacement 21 = .ok (.invokevirtual 162, 3) := by decide +kernel
theorem dX9_displacement_24 : decode cX9_displacement 24 = .ok (.invokevirtual 90, 3) := by decide +kernel
theorem dX9_displacement_27 : decode cX9_displacement 27 = .ok (.ireturn, 1) := by decide +kernel
theorem dX9_fits_0 : decode cX9_fits 0 = .ok (.aload_n 0, 1) := by decide +kernel
theorem dX9_fits_1 : decode cX9_fits 1 = .ok (.aload_n 0, 1) := by decide +kernel
theorem dX9_fits_2 : decode cX9_fits 2 = .ok (.iload_n 1, 1) := by decide +kernel
theorem dX9_fits_3 : decode cX9_fits 3 = .ok (.invokevirtual 168, 3) := by decide +kernel
theorem dX9_fits_6 : decode cX9_fits 6 = .ok (.putfield 46, 3) := by decide +kernel
theorem dX9_fits_9 : decode cX9_fits 9 = .ok (.aload_n 0, 1) := by decide +kernel
theorem dX9_fits_10 : decode cX9_fits 10 = .ok (.getfield 46, 3) := by decide +kernel
theorem dX9_fits_13 : decode cX9_fits 13 = .ok (.ifCond .ne 15, 3) := by decide +kernel
theorem dX9_fits_16 : decode cX9_fits 16 = .ok (.aload_n 0, 1) := by decide +kernel
theorem dX9_fits_17 : decode cX9_fits 17 = .ok (.iload_n 1, 1) := by decide +kernel
theorem dX9_fits_18 : decode cX9_fits 18 = .ok (.invokevirtual 171, 3) := by decide +kernel
theorem dX9_fits_21 : decode cX9_fits 21 = .ok (.ifCond .eq 7, 3) := by decide +kernel
theorem dX9_fits_24 : decode cX9_fits 24 = .ok (.iconst 1, 1) := by decide +kernel
theorem dX9_fits_25 : decode cX9_fits 25 = .ok (.goto 4, 3) := by decide +kernel
theorem dX9_fits_28 : decode cX9_fits 28 = .ok (.iconst 0, 1) := by decide +kernel
theorem dX9_fits_29 : decode cX9_fits 29 = .ok (.ireturn, 1) := by decide +kernel
theorem dX9_misfitMany_0 : decode cX9_misfitMany 0 = .ok (.aload_n 0, 1) := by decide +kernel
theorem dX9_misfitMany_1 : decode cX9_misfitMany 1 = .ok (.invokevirtual 143, 3) := by decide +kernel
theorem dX9_misfitMany_4 : decode cX9_misfitMany 4 = .ok (.iconst 0, 1) := by decide +kernel
theorem dX9_misfitMany_5 : decode cX9_misfitMany 5 = .ok (.istore_n 1, 1) := by decide +kernel
theorem dX9_misfitMany_6 : decode cX9_misfitMany 6 = .ok (.iconst 0, 1) := by decide +kernel
theorem dX9_misfitMany_7 : decode cX9_misfitMany 7 = .ok (.istore_n 2, 1) := by decide +kernel
theorem dX9_misfitMany_8 : decode cX9_misfitMany 8 = .ok (.iload_n 2, 1) := by decide +kernel
theorem dX9_misfitMany_9 : decode cX9_misfitMany 9 = .ok (.aload_n 0, 1) := by decide +kernel
theorem dX9_misfitMany_10 : decode cX9_misfitMany 10 = .ok (.getfield 7, 3) := by decide +kernel
theorem dX9_misfitMany_13 : decode cX9_misfitMany 13 = .ok (.iconst 0, 1) := by decide +kernel
theorem dX9_misfitMany_14 : decode cX9_misfitMany 14 = .ok (.iaload, 1) := by decide +kernel
theorem dX9_misfitMany_15 : decode cX9_misfitMany 15 = .ok (.if_icmp .ge 33, 3) := by decide +kernel
theorem dX9_misfitMany_18 : decode cX9_misfitMany 18 = .ok (.iload_n 1, 1) := by decide +kernel
theorem dX9_misfitMany_19 : decode cX9_misfitMany 19 = .ok (.aload_n 0, 1) := by decide +kernel
theorem dX9_misfitMany_20 : decode cX9_misfitMany 20 = .ok (.iload_n 2, 1) := by decide +kernel
theorem dX9_misfitMany_21 : decode cX9_misfitMany 21 = .ok (.invokevirtual 146, 3) := by decide +kernel
theorem dX9_misfitMany_24 : decode cX9_misfitMany 24 = .ok (.ifCond .eq 15, 3) := by decide +kernel
theorem dX9_misfitMany_27 : decode cX9_misfitMany 27 = .ok (.aload_n 0, 1) := by decide +kernel
theorem dX9_misfitMany_28 : decode cX9_misfitMany 28 = .ok (.iload_n 2, 1) := by decide +kernel
theorem dX9_misfitMany_29 : decode cX9_misfitMany 29 = .ok (.invokevirtual 171, 3) := by decide +kernel
theorem dX9_misfitMany_32 : decode cX9_misfitMany 32 = .ok (.ifCond .ne 7, 3) := by decide +kernel
theorem dX9_misfitMany_35 : decode cX9_misfitMany 35 = .ok (.iconst 1, 1) := by decide +kernel
theorem dX9_misfitMany_36 : decode cX9_misfitMany 36 = .ok (.goto 4, 3) := by decide +kernel
theorem dX9_misfitMany_39 : decode cX9_misfitMany 39 = .ok (.iconst 0, 1) := by decide +kernel
theorem dX9_misfitMany_40 : decode cX9_misfitMany 40 = .ok (.iadd, 1) := by decide +kernel
theorem dX9_misfitMany_41 : decode cX9_misfitMany 41 = .ok (.istore_n 1, 1) := by decide +kernel
theorem dX9_misfitMany_42 : decode cX9_misfitMany 42 = .ok (.iinc 2 1, 3) := by decide +kernel
theorem dX9_misfitMany_45 : decode cX9_misfitMany 45 = .ok (.goto (-37), 3) := by decide +kernel
theorem dX9_misfitMany_48 : decode cX9_misfitMany 48 = .ok (.iload_n 1, 1) := by decide +kernel
theorem dX9_misfitMany_49 : decode cX9_misfitMany 49 = .ok (.ireturn, 1) := by decide +kernel
theorem dX9_misfits_0 : decode cX9_misfits 0 = .ok (.aload_n 0, 1) := by decide +kernel
theorem dX9_misfits_1 : decode cX9_misfits 1 = .ok (.invokevirtual 159, 3) := by decide +kernel
theorem dX9_misfits_4 : decode cX9_misfits 4 = .ok (.ifCond .le 11, 3) := by decide +kernel
theorem dX9_misfits_7 : decode cX9_misfits 7 = .ok (.aload_n 0, 1) := by decide +kernel
theorem dX9_misfits_8 : decode cX9_misfits 8 = .ok (.iconst 1, 1) := by decide +kernel
theorem dX9_misfits_9 : decode cX9_misfits 9 = .ok (.invokevirtual 93, 3) := by decide +kernel
theorem dX9_misfits_12 : decode cX9_misfits 12 = .ok (.goto 11, 3) := by decide +kernel
end
section
theorem dX9_misfits_15 : decode cX9_misfits 15 = .ok (.aload_n 0, 1) := by decide +kernel
theorem dX9_misfits_16 : decode cX9_misfits 16 = .ok (.aload_n 0, 1) := by decide +kernel
theorem dX9_misfits_17 : decode cX9_misfits 17 = .ok (.invokevirtual 174, 3) := by decide +kernel
theorem dX9_misfits_20 : decode cX9_misfits 20 = .ok (.invokevirtual 90, 3) := by decide +kernel
theorem dX9_misfits_23 : decode cX9_misfits 23 = .ok (.ireturn, 1) := by decide +kernel
theorem dX9_neededForm_0 : decode cX9_neededForm 0 = .ok (.aload_n 0, 1) := by decide +kernel
theorem dX9_neededForm_1 : decode cX9_neededForm 1 = .ok (.iload_n 1, 1) := by decide +kernel
theorem dX9_neededForm_2 : decode cX9_neededForm 2 = .ok (.invokevirtual 168, 3) := by decide +kernel
theorem dX9_neededForm_5 : decode cX9_neededForm 5 = .ok (.istore_n 2, 1) := by decide +kernel
theorem dX9_neededForm_6 : decode cX9_neededForm 6 = .ok (.iload_n 2, 1) := by decide +kernel
theorem dX9_neededForm_7 : decode cX9_neededForm 7 = .ok (.ifCond .eq 11, 3) := by decide +kernel
theorem dX9_neededForm_10 : decode cX9_neededForm 10 = .ok (.aload_n 0, 1) := by decide +kernel
theorem dX9_neededForm_11 : decode cX9_neededForm 11 = .ok (.iload_n 2, 1) := by decide +kernel
theorem dX9_neededForm_12 : decode cX9_neededForm 12 = .ok (.invokevirtual 93, 3) := by decide +kernel
theorem dX9_neededForm_15 : decode cX9_neededForm 15 = .ok (.goto 15, 3) := by decide +kernel
theorem dX9_neededForm_18 : decode cX9_neededForm 18 = .ok (.aload_n 0, 1) := by decide +kernel
theorem dX9_neededForm_19 : decode cX9_neededForm 19 = .ok (.aload_n 0, 1) := by decide +kernel
theorem dX9_neededForm_20 : decode cX9_neededForm 20 = .ok (.iload_n 1, 1) := by decide +kernel
theorem dX9_neededForm_21 : decode cX9_neededForm 21 = .ok (.invokevirtual 162, 3) := by decide +kernel
theorem dX9_neededForm_24 : decode cX9_neededForm 24 = .ok (.invokestatic 165, 3) := by decide +kernel
theorem dX9_neededForm_27 : decode cX9_neededForm 27 = .ok (.invokevirtual 90, 3) := by decide +kernel
theorem dX9_neededForm_30 : decode cX9_neededForm 30 = .ok (.ireturn, 1) := by decide +kernel
theorem dX9_round_0 : decode cX9_round 0 = .ok (.aload_n 0, 1) := by decide +kernel
theorem dX9_round_1 : decode cX9_round 1 = .ok (.invokevirtual 143, 3) := by decide +kernel
theorem dX9_round_4 : decode cX9_round 4 = .ok (.iconst 0, 1) := by decide +kernel
theorem dX9_round_5 : decode cX9_round 5 = .ok (.istore_n 1, 1) := by decide +kernel
theorem dX9_round_6 : decode cX9_round 6 = .ok (.iconst 0, 1) := by decide +kernel
theorem dX9_round_7 : decode cX9_round 7 = .ok (.istore_n 2, 1) := by decide +kernel
theorem dX9_round_8 : decode cX9_round 8 = .ok (.iload_n 2, 1) := by decide +kernel
theorem dX9_round_9 : decode cX9_round 9 = .ok (.aload_n 0, 1) := by decide +kernel
theorem dX9_round_10 : decode cX9_round 10 = .ok (.getfield 7, 3) := by decide +kernel
theorem dX9_round_13 : decode cX9_round 13 = .ok (.iconst 0, 1) := by decide +kernel
theorem dX9_round_14 : decode cX9_round 14 = .ok (.iaload, 1) := by decide +kernel
theorem dX9_round_15 : decode cX9_round 15 = .ok (.if_icmp .ge 52, 3) := by decide +kernel
theorem dX9_round_18 : decode cX9_round 18 = .ok (.aload_n 0, 1) := by decide +kernel
theorem dX9_round_19 : decode cX9_round 19 = .ok (.getfield 43, 3) := by decide +kernel
theorem dX9_round_22 : decode cX9_round 22 = .ok (.iload_n 2, 1) := by decide +kernel
theorem dX9_round_23 : decode cX9_round 23 = .ok (.aload_n 0, 1) := by decide +kernel
theorem dX9_round_24 : decode cX9_round 24 = .ok (.iload_n 2, 1) := by decide +kernel
theorem dX9_round_25 : decode cX9_round 25 = .ok (.invokevirtual 83, 3) := by decide +kernel
theorem dX9_round_28 : decode cX9_round 28 = .ok (.iastore, 1) := by decide +kernel
theorem dX9_round_29 : decode cX9_round 29 = .ok (.aload_n 0, 1) := by decide +kernel
theorem dX9_round_30 : decode cX9_round 30 = .ok (.iload_n 2, 1) := by decide +kernel
theorem dX9_round_31 : decode cX9_round 31 = .ok (.invokevirtual 146, 3) := by decide +kernel
theorem dX9_round_34 : decode cX9_round 34 = .ok (.ifCond .eq 27, 3) := by decide +kernel
theorem dX9_round_37 : decode cX9_round 37 = .ok (.aload_n 0, 1) := by decide +kernel
theorem dX9_round_38 : decode cX9_round 38 = .ok (.iload_n 2, 1) := by decide +kernel
theorem dX9_round_39 : decode cX9_round 39 = .ok (.invokevirtual 171, 3) := by decide +kernel
theorem dX9_round_42 : decode cX9_round 42 = .ok (.ifCond .ne 19, 3) := by decide +kernel
theorem dX9_round_45 : decode cX9_round 45 = .ok (.aload_n 0, 1) := by decide +kernel
theorem dX9_round_46 : decode cX9_round 46 = .ok (.getfield 43, 3) := by decide +kernel
theorem dX9_round_49 : decode cX9_round 49 = .ok (.iload_n 2, 1) := by decide +kernel
theorem dX9_round_50 : decode cX9_round 50 = .ok (.aload_n 0, 1) := by decide +kernel
theorem dX9_round_51 : decode cX9_round 51 = .ok (.iload_n 2, 1) := by decide +kernel
theorem dX9_round_52 : decode cX9_round 52 = .ok (.invokevirtual 162, 3) := by decide +kernel
theorem dX9_round_55 : decode cX9_round 55 = .ok (.invokestatic 165, 3) := by decide +kernel
theorem dX9_round_58 : decode cX9_round 58 = .ok (.iastore, 1) := by decide +kernel
theorem dX9_round_59 : decode cX9_round 59 = .ok (.iconst 1, 1) := by decide +kernel
theorem dX9_round_60 : decode cX9_round 60 = .ok (.istore_n 1, 1) := by decide +kernel
theorem dX9_round_61 : decode cX9_round 61 = .ok (.iinc 2 1, 3) := by decide +kernel
theorem dX9_round_64 : decode cX9_round 64 = .ok (.goto (-56), 3) := by decide +kernel
theorem dX9_round_67 : decode cX9_round 67 = .ok (.iconst 0, 1) := by decide +kernel
theorem dX9_round_68 : decode cX9_round 68 = .ok (.istore_n 2, 1) := by decide +kernel
theorem dX9_round_69 : decode cX9_round 69 = .ok (.iload_n 2, 1) := by decide +kernel
theorem dX9_round_70 : decode cX9_round 70 = .ok (.aload_n 0, 1) := by decide +kernel
theorem dX9_round_71 : decode cX9_round 71 = .ok (.getfield 7, 3) := by decide +kernel
theorem dX9_round_74 : decode cX9_round 74 = .ok (.iconst 0, 1) := by decide +kernel
theorem dX9_round_75 : decode cX9_round 75 = .ok (.iaload, 1) := by decide +kernel
theorem dX9_round_76 : decode cX9_round 76 = .ok (.if_icmp .ge 20, 3) := by decide +kernel
theorem dX9_round_79 : decode cX9_round 79 = .ok (.aload_n 0, 1) := by decide +kernel
theorem dX9_round_80 : decode cX9_round 80 = .ok (.iload_n 2, 1) := by decide +kernel
theorem dX9_round_81 : decode cX9_round 81 = .ok (.aload_n 0, 1) := by decide +kernel
theorem dX9_round_82 : decode cX9_round 82 = .ok (.getfield 43, 3) := by decide +kernel
theorem dX9_round_85 : decode cX9_round 85 = .ok (.iload_n 2, 1) := by decide +kernel
theorem dX9_round_86 : decode cX9_round 86 = .ok (.iaload, 1) := by decide +kernel
theorem dX9_round_87 : decode cX9_round 87 = .ok (.invokevirtual 113, 3) := by decide +kernel
theorem dX9_round_90 : decode cX9_round 90 = .ok (.iinc 2 1, 3) := by decide +kernel
theorem dX9_round_93 : decode cX9_round 93 = .ok (.goto (-24), 3) := by decide +kernel
theorem dX9_round_96 : decode cX9_round 96 = .ok (.iload_n 1, 1) := by decide +kernel
theorem dX9_round_97 : decode cX9_round 97 = .ok (.ireturn, 1) := by decide +kernel
theorem dX9_relax_0 : decode cX9_relax 0 = .ok (.aload_n 0, 1) := by decide +kernel
theorem dX9_relax_1 : decode cX9_relax 1 = .ok (.invokevirtual 159, 3) := by decide +kernel
theorem dX9_relax_4 : decode cX9_relax 4 = .ok (.ifCond .le 9, 3) := by decide +kernel
theorem dX9_relax_7 : decode cX9_relax 7 = .ok (.aload_n 0, 1) := by decide +kernel
theorem dX9_relax_8 : decode cX9_relax 8 = .ok (.iconst 1, 1) := by decide +kernel
theorem dX9_relax_9 : decode cX9_relax 9 = .ok (.invokevirtual 93, 3) := by decide +kernel
theorem dX9_relax_12 : decode cX9_relax 12 = .ok (.ireturn, 1) := by decide +kernel
theorem dX9_relax_13 : decode cX9_relax 13 = .ok (.aload_n 0, 1) := by decide +kernel
theorem dX9_relax_14 : decode cX9_relax 14 = .ok (.invokevirtual 131, 3) := by decide +kernel
theorem dX9_relax_17 : decode cX9_relax 17 = .ok (.iconst 0, 1) := by decide +kernel
theorem dX9_relax_18 : decode cX9_relax 18 = .ok (.istore_n 1, 1) := by decide +kernel
theorem dX9_relax_19 : decode cX9_relax 19 = .ok (.iload_n 1, 1) := by decide +kernel
theorem dX9_relax_20 : decode cX9_relax 20 = .ok (.aload_n 0, 1) := by decide +kernel
theorem dX9_relax_21 : decode cX9_relax 21 = .ok (.getfield 7, 3) := by decide +kernel
theorem dX9_relax_24 : decode cX9_relax 24 = .ok (.iconst 0, 1) := by decide +kernel
theorem dX9_relax_25 : decode cX9_relax 25 = .ok (.iaload, 1) := by decide +kernel
theorem dX9_relax_26 : decode cX9_relax 26 = .ok (.if_icmp .ge 15, 3) := by decide +kernel
theorem dX9_relax_29 : decode cX9_relax 29 = .ok (.aload_n 0, 1) := by decide +kernel
theorem dX9_relax_30 : decode cX9_relax 30 = .ok (.iload_n 1, 1) := by decide +kernel
theorem dX9_relax_31 : decode cX9_relax 31 = .ok (.iconst 0, 1) := by decide +kernel
theorem dX9_relax_32 : decode cX9_relax 32 = .ok (.invokevirtual 113, 3) := by decide +kernel
theorem dX9_relax_35 : decode cX9_relax 35 = .ok (.iinc 1 1, 3) := by decide +kernel
theorem dX9_relax_38 : decode cX9_relax 38 = .ok (.goto (-19), 3) := by decide +kernel
theorem dX9_relax_41 : decode cX9_relax 41 = .ok (.iconst 0, 1) := by decide +kernel
theorem dX9_relax_42 : decode cX9_relax 42 = .ok (.istore_n 1, 1) := by decide +kernel
theorem dX9_relax_43 : decode cX9_relax 43 = .ok (.aload_n 0, 1) := by decide +kernel
theorem dX9_relax_44 : decode cX9_relax 44 = .ok (.invokevirtual 177, 3) := by decide +kernel
theorem dX9_relax_47 : decode cX9_relax 47 = .ok (.ifCond .eq 9, 3) := by decide +kernel
theorem dX9_relax_50 : decode cX9_relax 50 = .ok (.iinc 1 1, 3) := by decide +kernel
theorem dX9_relax_53 : decode cX9_relax 53 = .ok (.goto (-10), 3) := by decide +kernel
theorem dX9_relax_56 : decode cX9_relax 56 = .ok (.aload_n 0, 1) := by decide +kernel
theorem dX9_relax_57 : decode cX9_relax 57 = .ok (.iload_n 1, 1) := by decide +kernel
theorem dX9_relax_58 : decode cX9_relax 58 = .ok (.invokevirtual 90, 3) := by decide +kernel
theorem dX9_relax_61 : decode cX9_relax 61 = .ok (.ireturn, 1) := by decide +kernel
theorem dX9_pass_0 : decode cX9_pass 0 = .ok (.iconst 0, 1) := by decide +kernel
theorem dX9_pass_1 : decode cX9_pass 1 = .ok (.istore_n 1, 1) := by decide +kernel
theorem dX9_pass_2 : decode cX9_pass 2 = .ok (.iconst 0, 1) := by decide +kernel
theorem dX9_pass_3 : decode cX9_pass 3 = .ok (.istore_n 2, 1) := by decide +kernel
theorem dX9_pass_4 : decode cX9_pass 4 = .ok (.iload_n 2, 1) := by decide +kernel
theorem dX9_pass_5 : decode cX9_pass 5 = .ok (.aload_n 0, 1) := by decide +kernel
theorem dX9_pass_6 : decode cX9_pass 6 = .ok (.getfield 7, 3) := by decide +kernel
theorem dX9_pass_9 : decode cX9_pass 9 = .ok (.iconst 0, 1) := by decide +kernel
theorem dX9_pass_10 : decode cX9_pass 10 = .ok (.iaload, 1) := by decide +kernel
theorem dX9_pass_11 : decode cX9_pass 11 = .ok (.if_icmp .ge 62, 3) := by decide +kernel
theorem dX9_pass_14 : decode cX9_pass 14 = .ok (.aload_n 0, 1) := by decide +kernel
theorem dX9_pass_15 : decode cX9_pass 15 = .ok (.iload_n 2, 1) := by decide +kernel
theorem dX9_pass_16 : decode cX9_pass 16 = .ok (.invokevirtual 146, 3) := by decide +kernel
theorem dX9_pass_19 : decode cX9_pass 19 = .ok (.ifCond .eq 48, 3) := by decide +kernel
theorem dX9_pass_22 : decode cX9_pass 22 = .ok (.aload_n 0, 1) := by decide +kernel
theorem dX9_pass_23 : decode cX9_pass 23 = .ok (.iload_n 2, 1) := by decide +kernel
theorem dX9_pass_24 : decode cX9_pass 24 = .ok (.invokevirtual 83, 3) := by decide +kernel
theorem dX9_pass_27 : decode cX9_pass 27 = .ok (.ifCond .le 40, 3) := by decide +kernel
theorem dX9_pass_30 : decode cX9_pass 30 = .ok (.aload_n 0, 1) := by decide +kernel
theorem dX9_pass_31 : decode cX9_pass 31 = .ok (.iload_n 2, 1) := by decide +kernel
theorem dX9_pass_32 : decode cX9_pass 32 = .ok (.aload_n 0, 1) := by decide +kernel
theorem dX9_pass_33 : decode cX9_pass 33 = .ok (.iload_n 2, 1) := by decide +kernel
theorem dX9_pass_34 : decode cX9_pass 34 = .ok (.invokevirtual 83, 3) := by decide +kernel
theorem dX9_pass_37 : decode cX9_pass 37 = .ok (.iconst 1, 1) := by decide +kernel
theorem dX9_pass_38 : decode cX9_pass 38 = .ok (.isub, 1) := by decide +kernel
theorem dX9_pass_39 : decode cX9_pass 39 = .ok (.invokevirtual 113, 3) := by decide +kernel
theorem dX9_pass_42 : decode cX9_pass 42 = .ok (.aload_n 0, 1) := by decide +kernel
theorem dX9_pass_43 : decode cX9_pass 43 = .ok (.invokevirtual 174, 3) := by decide +kernel
theorem dX9_pass_46 : decode cX9_pass 46 = .ok (.ifCond .ne 9, 3) := by decide +kernel
theorem dX9_pass_49 : decode cX9_pass 49 = .ok (.iinc 1 1, 3) := by decide +kernel
theorem dX9_pass_52 : decode cX9_pass 52 = .ok (.goto 15, 3) := by decide +kernel
theorem dX9_pass_55 : decode cX9_pass 55 = .ok (.aload_n 0, 1) := by decide +kernel
theorem dX9_pass_56 : decode cX9_pass 56 = .ok (.iload_n 2, 1) := by decide +kernel
theorem dX9_pass_57 : decode cX9_pass 57 = .ok (.aload_n 0, 1) := by decide +kernel
theorem dX9_pass_58 : decode cX9_pass 58 = .ok (.iload_n 2, 1) := by decide +kernel
theorem dX9_pass_59 : decode cX9_pass 59 = .ok (.invokevirtual 83, 3) := by decide +kernel
theorem dX9_pass_62 : decode cX9_pass 62 = .ok (.iconst 1, 1) := by decide +kernel
theorem dX9_pass_63 : decode cX9_pass 63 = .ok (.iadd, 1) := by decide +kernel
theorem dX9_pass_64 : decode cX9_pass 64 = .ok (.invokevirtual 113, 3) := by decide +kernel
theorem dX9_pass_67 : decode cX9_pass 67 = .ok (.iinc 2 1, 3) := by decide +kernel
theorem dX9_pass_70 : decode cX9_pass 70 = .ok (.goto (-66), 3) := by decide +kernel
theorem dX9_pass_73 : decode cX9_pass 73 = .ok (.iload_n 1, 1) := by decide +kernel
theorem dX9_pass_74 : decode cX9_pass 74 = .ok (.ireturn, 1) := by decide +kernel
theorem dX9_shrink_0 : decode cX9_shrink 0 = .ok (.aload_n 0, 1) := by decide +kernel
theorem dX9_shrink_1 : decode cX9_shrink 1 = .ok (.invokevirtual 159, 3) := by decide +kernel
theorem dX9_shrink_4 : decode cX9_shrink 4 = .ok (.ifCond .gt 10, 3) := by decide +kernel
theorem dX9_shrink_7 : decode cX9_shrink 7 = .ok (.aload_n 0, 1) := by decide +kernel
theorem dX9_shrink_8 : decode cX9_shrink 8 = .ok (.invokevirtual 174, 3) := by decide +kernel
theorem dX9_shrink_11 : decode cX9_shrink 11 = .ok (.ifCond .le 9, 3) := by decide +kernel
theorem dX9_shrink_14 : decode cX9_shrink 14 = .ok (.aload_n 0, 1) := by decide +kernel
theorem dX9_shrink_15 : decode cX9_shrink 15 = .ok (.iconst 1, 1) := by decide +kernel
theorem dX9_shrink_16 : decode cX9_shrink 16 = .ok (.invokevirtual 93, 3) := by decide +kernel
theorem dX9_shrink_19 : decode cX9_shrink 19 = .ok (.ireturn, 1) := by decide +kernel
theorem dX9_shrink_20 : decode cX9_shrink 20 = .ok (.aload_n 0, 1) := by decide +kernel
theorem dX9_shrink_21 : decode cX9_shrink 21 = .ok (.invokevirtual 131, 3) := by decide +kernel
theorem dX9_shrink_24 : decode cX9_shrink 24 = .ok (.iconst 0, 1) := by decide +kernel
theorem dX9_shrink_25 : decode cX9_shrink 25 = .ok (.istore_n 1, 1) := by decide +kernel
theorem dX9_shrink_26 : decode cX9_shrink 26 = .ok (.aload_n 0, 1) := by decide +kernel
theorem dX9_shrink_27 : decode cX9_shrink 27 = .ok (.invokevirtual 181, 3) := by decide +kernel
theorem dX9_shrink_30 : decode cX9_shrink 30 = .ok (.istore_n 2, 1) := by decide +kernel
theorem dX9_shrink_31 : decode cX9_shrink 31 = .ok (.iload_n 2, 1) := by decide +kernel
theorem dX9_shrink_32 : decode cX9_shrink 32 = .ok (.ifCond .le 15, 3) := by decide +kernel
theorem dX9_shrink_35 : decode cX9_shrink 35 = .ok (.iload_n 1, 1) := by decide +kernel
theorem dX9_shrink_36 : decode cX9_shrink 36 = .ok (.iload_n 2, 1) := by decide +kernel
theorem dX9_shrink_37 : decode cX9_shrink 37 = .ok (.iadd, 1) := by decide +kernel
theorem dX9_shrink_38 : decode cX9_shrink 38 = .ok (.istore_n 1, 1) := by decide +kernel
theorem dX9_shrink_39 : decode cX9_shrink 39 = .ok (.aload_n 0, 1) := by decide +kernel
theorem dX9_shrink_40 : decode cX9_shrink 40 = .ok (.invokevirtual 181, 3) := by decide +kernel
theorem dX9_shrink_43 : decode cX9_shrink 43 = .ok (.istore_n 2, 1) := by decide +kernel
theorem dX9_shrink_44 : decode cX9_shrink 44 = .ok (.goto (-13), 3) := by decide +kernel
theorem dX9_shrink_47 : decode cX9_shrink 47 = .ok (.aload_n 0, 1) := by decide +kernel
theorem dX9_shrink_48 : decode cX9_shrink 48 = .ok (.iload_n 1, 1) := by decide +kernel
theorem dX9_shrink_49 : decode cX9_shrink 49 = .ok (.invokevirtual 90, 3) := by decide +kernel
theorem dX9_shrink_52 : decode cX9_shrink 52 = .ok (.ireturn, 1) := by decide +kernel
theorem dX9_chooses_0 : decode cX9_chooses 0 = .ok (.iload_n 1, 1) := by decide +kernel
theorem dX9_chooses_1 : decode cX9_chooses 1 = .ok (.istore_n 3, 1) := by decide +kernel
theorem dX9_chooses_2 : decode cX9_chooses 2 = .ok (.aload_n 0, 1) := by decide +kernel
theorem dX9_chooses_3 : decode cX9_chooses 3 = .ok (.getfield 7, 3) := by decide +kernel
theorem dX9_chooses_6 : decode cX9_chooses 6 = .ok (.iconst 0, 1) := by decide +kernel
theorem dX9_chooses_7 : decode cX9_chooses 7 = .ok (.iaload, 1) := by decide +kernel
theorem dX9_chooses_8 : decode cX9_chooses 8 = .ok (.iconst 1, 1) := by decide +kernel
theorem dX9_chooses_9 : decode cX9_chooses 9 = .ok (.isub, 1) := by decide +kernel
theorem dX9_chooses_10 : decode cX9_chooses 10 = .ok (.istore 4, 2) := by decide +kernel
theorem dX9_chooses_12 : decode cX9_chooses 12 = .ok (.iload 4, 2) := by decide +kernel
theorem dX9_chooses_14 : decode cX9_chooses 14 = .ok (.ifCond .lt 31, 3) := by decide +kernel
theorem dX9_chooses_17 : decode cX9_chooses 17 = .ok (.aload_n 0, 1) := by decide +kernel
theorem dX9_chooses_18 : decode cX9_chooses 18 = .ok (.iload 4, 2) := by decide +kernel
theorem dX9_chooses_20 : decode cX9_chooses 20 = .ok (.invokevirtual 146, 3) := by decide +kernel
theorem dX9_chooses_23 : decode cX9_chooses 23 = .ok (.ifCond .eq 16, 3) := by decide +kernel
theorem dX9_chooses_26 : decode cX9_chooses 26 = .ok (.aload_n 0, 1) := by decide +kernel
theorem dX9_chooses_27 : decode cX9_chooses 27 = .ok (.iload 4, 2) := by decide +kernel
theorem dX9_chooses_29 : decode cX9_chooses 29 = .ok (.iload_n 3, 1) := by decide +kernel
theorem dX9_chooses_30 : decode cX9_chooses 30 = .ok (.iconst 3, 1) := by decide +kernel
theorem dX9_chooses_31 : decode cX9_chooses 31 = .ok (.irem, 1) := by decide +kernel
theorem dX9_chooses_32 : decode cX9_chooses 32 = .ok (.invokevirtual 113, 3) := by decide +kernel
theorem dX9_chooses_35 : decode cX9_chooses 35 = .ok (.iload_n 3, 1) := by decide +kernel
theorem dX9_chooses_36 : decode cX9_chooses 36 = .ok (.iconst 3, 1) := by decide +kernel
theorem dX9_chooses_37 : decode cX9_chooses 37 = .ok (.idiv, 1) := by decide +kernel
theorem dX9_chooses_38 : decode cX9_chooses 38 = .ok (.istore_n 3, 1) := by decide +kernel
theorem dX9_chooses_39 : decode cX9_chooses 39 = .ok (.iinc 4 (-1), 3) := by decide +kernel
theorem dX9_chooses_42 : decode cX9_chooses 42 = .ok (.goto (-30), 3) := by decide +kernel
theorem dX9_chooses_45 : decode cX9_chooses 45 = .ok (.return_, 1) := by decide +kernel
theorem dX9_tellChoices_0 : decode cX9_tellChoices 0 = .ok (.iconst 0, 1) := by decide +kernel
theorem dX9_tellChoices_1 : decode cX9_tellChoices 1 = .ok (.istore_n 1, 1) := by decide +kernel
theorem dX9_tellChoices_2 : decode cX9_tellChoices 2 = .ok (.iload_n 1, 1) := by decide +kernel
theorem dX9_tellChoices_3 : decode cX9_tellChoices 3 = .ok (.aload_n 0, 1) := by decide +kernel
theorem dX9_tellChoices_4 : decode cX9_tellChoices 4 = .ok (.getfield 7, 3) := by decide +kernel
theorem dX9_tellChoices_7 : decode cX9_tellChoices 7 = .ok (.iconst 0, 1) := by decide +kernel
theorem dX9_tellChoices_8 : decode cX9_tellChoices 8 = .ok (.iaload, 1) := by decide +kernel
theorem dX9_tellChoices_9 : decode cX9_tellChoices 9 = .ok (.if_icmp .ge 20, 3) := by decide +kernel
theorem dX9_tellChoices_12 : decode cX9_tellChoices 12 = .ok (.aload_n 0, 1) := by decide +kernel
theorem dX9_tellChoices_13 : decode cX9_tellChoices 13 = .ok (.getfield 43, 3) := by decide +kernel
theorem dX9_tellChoices_16 : decode cX9_tellChoices 16 = .ok (.iload_n 1, 1) := by decide +kernel
theorem dX9_tellChoices_17 : decode cX9_tellChoices 17 = .ok (.aload_n 0, 1) := by decide +kernel
theorem dX9_tellChoices_18 : decode cX9_tellChoices 18 = .ok (.iload_n 1, 1) := by decide +kernel
theorem dX9_tellChoices_19 : decode cX9_tellChoices 19 = .ok (.invokevirtual 83, 3) := by decide +kernel
theorem dX9_tellChoices_22 : decode cX9_tellChoices 22 = .ok (.iastore, 1) := by decide +kernel
theorem dX9_tellChoices_23 : decode cX9_tellChoices 23 = .ok (.iinc 1 1, 3) := by decide +kernel
theorem dX9_tellChoices_26 : decode cX9_tellChoices 26 = .ok (.goto (-24), 3) := by decide +kernel
theorem dX9_tellChoices_29 : decode cX9_tellChoices 29 = .ok (.aload_n 0, 1) := by decide +kernel
theorem dX9_tellChoices_30 : decode cX9_tellChoices 30 = .ok (.invokevirtual 156, 3) := by decide +kernel
theorem dX9_tellChoices_33 : decode cX9_tellChoices 33 = .ok (.istore_n 1, 1) := by decide +kernel
theorem dX9_tellChoices_34 : decode cX9_tellChoices 34 = .ok (.iconst 1, 1) := by decide +kernel
theorem dX9_tellChoices_35 : decode cX9_tellChoices 35 = .ok (.istore_n 2, 1) := by decide +kernel
theorem dX9_tellChoices_36 : decode cX9_tellChoices 36 = .ok (.iconst 0, 1) := by decide +kernel
theorem dX9_tellChoices_37 : decode cX9_tellChoices 37 = .ok (.istore_n 3, 1) := by decide +kernel
theorem dX9_tellChoices_38 : decode cX9_tellChoices 38 = .ok (.iload_n 3, 1) := by decide +kernel
theorem dX9_tellChoices_39 : decode cX9_tellChoices 39 = .ok (.iload_n 1, 1) := by decide +kernel
theorem dX9_tellChoices_40 : decode cX9_tellChoices 40 = .ok (.if_icmp .ge 13, 3) := by decide +kernel
theorem dX9_tellChoices_43 : decode cX9_tellChoices 43 = .ok (.iload_n 2, 1) := by decide +kernel
theorem dX9_tellChoices_44 : decode cX9_tellChoices 44 = .ok (.iconst 3, 1) := by decide +kernel
theorem dX9_tellChoices_45 : decode cX9_tellChoices 45 = .ok (.imul, 1) := by decide +kernel
theorem dX9_tellChoices_46 : decode cX9_tellChoices 46 = .ok (.istore_n 2, 1) := by decide +kernel
theorem dX9_tellChoices_47 : decode cX9_tellChoices 47 = .ok (.iinc 3 1, 3) := by decide +kernel
theorem dX9_tellChoices_50 : decode cX9_tellChoices 50 = .ok (.goto (-12), 3) := by decide +kernel
theorem dX9_tellChoices_53 : decode cX9_tellChoices 53 = .ok (.aload_n 0, 1) := by decide +kernel
theorem dX9_tellChoices_54 : decode cX9_tellChoices 54 = .ok (.iconst (-1), 1) := by decide +kernel
theorem dX9_tellChoices_55 : decode cX9_tellChoices 55 = .ok (.putfield 184, 3) := by decide +kernel
theorem dX9_tellChoices_58 : decode cX9_tellChoices 58 = .ok (.aload_n 0, 1) := by decide +kernel
theorem dX9_tellChoices_59 : decode cX9_tellChoices 59 = .ok (.iconst 0, 1) := by decide +kernel
theorem dX9_tellChoices_60 : decode cX9_tellChoices 60 = .ok (.putfield 187, 3) := by decide +kernel
theorem dX9_tellChoices_63 : decode cX9_tellChoices 63 = .ok (.iconst 0, 1) := by decide +kernel
theorem dX9_tellChoices_64 : decode cX9_tellChoices 64 = .ok (.istore_n 3, 1) := by decide +kernel
theorem dX9_tellChoices_65 : decode cX9_tellChoices 65 = .ok (.iload_n 3, 1) := by decide +kernel
theorem dX9_tellChoices_66 : decode cX9_tellChoices 66 = .ok (.iload_n 2, 1) := by decide +kernel
theorem dX9_tellChoices_67 : decode cX9_tellChoices 67 = .ok (.if_icmp .ge 66, 3) := by decide +kernel
theorem dX9_tellChoices_70 : decode cX9_tellChoices 70 = .ok (.aload_n 0, 1) := by decide +kernel
theorem dX9_tellChoices_71 : decode cX9_tellChoices 71 = .ok (.iload_n 3, 1) := by decide +kernel
theorem dX9_tellChoices_72 : decode cX9_tellChoices 72 = .ok (.iload_n 1, 1) := by decide +kernel
theorem dX9_tellChoices_73 : decode cX9_tellChoices 73 = .ok (.invokevirtual 190, 3) := by decide +kernel
theorem dX9_tellChoices_76 : decode cX9_tellChoices 76 = .ok (.aload_n 0, 1) := by decide +kernel
theorem dX9_tellChoices_77 : decode cX9_tellChoices 77 = .ok (.invokevirtual 174, 3) := by decide +kernel
theorem dX9_tellChoices_80 : decode cX9_tellChoices 80 = .ok (.ifCond .ne 47, 3) := by decide +kernel
theorem dX9_tellChoices_83 : decode cX9_tellChoices 83 = .ok (.aload_n 0, 1) := by decide +kernel
theorem dX9_tellChoices_84 : decode cX9_tellChoices 84 = .ok (.dup, 1) := by decide +kernel
theorem dX9_tellChoices_85 : decode cX9_tellChoices 85 = .ok (.getfield 187, 3) := by decide +kernel
theorem dX9_tellChoices_88 : decode cX9_tellChoices 88 = .ok (.iconst 1, 1) := by decide +kernel
theorem dX9_tellChoices_89 : decode cX9_tellChoices 89 = .ok (.iadd, 1) := by decide +kernel
theorem dX9_tellChoices_90 : decode cX9_tellChoices 90 = .ok (.putfield 187, 3) := by decide +kernel
theorem dX9_tellChoices_93 : decode cX9_tellChoices 93 = .ok (.aload_n 0, 1) := by decide +kernel
theorem dX9_tellChoices_94 : decode cX9_tellChoices 94 = .ok (.invokevirtual 149, 3) := by decide +kernel
theorem dX9_tellChoices_97 : decode cX9_tellChoices 97 = .ok (.istore 4, 2) := by decide +kernel
theorem dX9_tellChoices_99 : decode cX9_tellChoices 99 = .ok (.aload_n 0, 1) := by decide +kernel
theorem dX9_tellChoices_100 : decode cX9_tellChoices 100 = .ok (.getfield 184, 3) := by decide +kernel
theorem dX9_tellChoices_103 : decode cX9_tellChoices 103 = .ok (.iconst (-1), 1) := by decide +kernel
theorem dX9_tellChoices_104 : decode cX9_tellChoices 104 = .ok (.if_icmp .eq 12, 3) := by decide +kernel
theorem dX9_tellChoices_107 : decode cX9_tellChoices 107 = .ok (.iload 4, 2) := by decide +kernel
theorem dX9_tellChoices_109 : decode cX9_tellChoices 109 = .ok (.aload_n 0, 1) := by decide +kernel
theorem dX9_tellChoices_110 : decode cX9_tellChoices 110 = .ok (.getfield 193, 3) := by decide +kernel
theorem dX9_tellChoices_113 : decode cX9_tellChoices 113 = .ok (.if_icmp .ge 14, 3) := by decide +kernel
theorem dX9_tellChoices_116 : decode cX9_tellChoices 116 = .ok (.aload_n 0, 1) := by decide +kernel
theorem dX9_tellChoices_117 : decode cX9_tellChoices 117 = .ok (.iload_n 3, 1) := by decide +kernel
theorem dX9_tellChoices_118 : decode cX9_tellChoices 118 = .ok (.putfield 184, 3) := by decide +kernel
theorem dX9_tellChoices_121 : decode cX9_tellChoices 121 = .ok (.aload_n 0, 1) := by decide +kernel
theorem dX9_tellChoices_122 : decode cX9_tellChoices 122 = .ok (.iload 4, 2) := by decide +kernel
theorem dX9_tellChoices_124 : decode cX9_tellChoices 124 = .ok (.putfield 193, 3) := by decide +kernel
theorem dX9_tellChoices_127 : decode cX9_tellChoices 127 = .ok (.iinc 3 1, 3) := by decide +kernel
theorem dX9_tellChoices_130 : decode cX9_tellChoices 130 = .ok (.goto (-65), 3) := by decide +kernel
theorem dX9_tellChoices_133 : decode cX9_tellChoices 133 = .ok (.iconst 0, 1) := by decide +kernel
theorem dX9_tellChoices_134 : decode cX9_tellChoices 134 = .ok (.istore_n 3, 1) := by decide +kernel
theorem dX9_tellChoices_135 : decode cX9_tellChoices 135 = .ok (.iload_n 3, 1) := by decide +kernel
theorem dX9_tellChoices_136 : decode cX9_tellChoices 136 = .ok (.aload_n 0, 1) := by decide +kernel
theorem dX9_tellChoices_137 : decode cX9_tellChoices 137 = .ok (.getfield 7, 3) := by decide +kernel
theorem dX9_tellChoices_140 : decode cX9_tellChoices 140 = .ok (.iconst 0, 1) := by decide +kernel
theorem dX9_tellChoices_141 : decode cX9_tellChoices 141 = .ok (.iaload, 1) := by decide +kernel
theorem dX9_tellChoices_142 : decode cX9_tellChoices 142 = .ok (.if_icmp .ge 20, 3) := by decide +kernel
theorem dX9_tellChoices_145 : decode cX9_tellChoices 145 = .ok (.aload_n 0, 1) := by decide +kernel
theorem dX9_tellChoices_146 : decode cX9_tellChoices 146 = .ok (.iload_n 3, 1) := by decide +kernel
theorem dX9_tellChoices_147 : decode cX9_tellChoices 147 = .ok (.aload_n 0, 1) := by decide +kernel
theorem dX9_tellChoices_148 : decode cX9_tellChoices 148 = .ok (.getfield 43, 3) := by decide +kernel
theorem dX9_tellChoices_151 : decode cX9_tellChoices 151 = .ok (.iload_n 3, 1) := by decide +kernel
theorem dX9_tellChoices_152 : decode cX9_tellChoices 152 = .ok (.iaload, 1) := by decide +kernel
theorem dX9_tellChoices_153 : decode cX9_tellChoices 153 = .ok (.invokevirtual 113, 3) := by decide +kernel
theorem dX9_tellChoices_156 : decode cX9_tellChoices 156 = .ok (.iinc 3 1, 3) := by decide +kernel
theorem dX9_tellChoices_159 : decode cX9_tellChoices 159 = .ok (.goto (-24), 3) := by decide +kernel
theorem dX9_tellChoices_162 : decode cX9_tellChoices 162 = .ok (.return_, 1) := by decide +kernel
theorem dX9_lacksChoices_0 : decode cX9_lacksChoices 0 = .ok (.aload_n 0, 1) := by decide +kernel
theorem dX9_lacksChoices_1 : decode cX9_lacksChoices 1 = .ok (.invokevirtual 159, 3) := by decide +kernel
theorem dX9_lacksChoices_4 : decode cX9_lacksChoices 4 = .ok (.ifCond .le 7, 3) := by decide +kernel
theorem dX9_lacksChoices_7 : decode cX9_lacksChoices 7 = .ok (.iconst 1, 1) := by decide +kernel
theorem dX9_lacksChoices_8 : decode cX9_lacksChoices 8 = .ok (.goto 17, 3) := by decide +kernel
theorem dX9_lacksChoices_11 : decode cX9_lacksChoices 11 = .ok (.aload_n 0, 1) := by decide +kernel
theorem dX9_lacksChoices_12 : decode cX9_lacksChoices 12 = .ok (.invokevirtual 156, 3) := by decide +kernel
theorem dX9_lacksChoices_15 : decode cX9_lacksChoices 15 = .ok (.bipush 8, 2) := by decide +kernel
theorem dX9_lacksChoices_17 : decode cX9_lacksChoices 17 = .ok (.if_icmp .le 7, 3) := by decide +kernel
theorem dX9_lacksChoices_20 : decode cX9_lacksChoices 20 = .ok (.iconst 2, 1) := by decide +kernel
theorem dX9_lacksChoices_21 : decode cX9_lacksChoices 21 = .ok (.goto 4, 3) := by decide +kernel
theorem dX9_lacksChoices_24 : decode cX9_lacksChoices 24 = .ok (.iconst 0, 1) := by decide +kernel
theorem dX9_lacksChoices_25 : decode cX9_lacksChoices 25 = .ok (.ireturn, 1) := by decide +kernel
theorem dX9_leastSize_0 : decode cX9_leastSize 0 = .ok (.aload_n 0, 1) := by decide +kernel
theorem dX9_leastSize_1 : decode cX9_leastSize 1 = .ok (.invokevirtual 196, 3) := by decide +kernel
theorem dX9_leastSize_4 : decode cX9_leastSize 4 = .ok (.istore_n 1, 1) := by decide +kernel
theorem dX9_leastSize_5 : decode cX9_leastSize 5 = .ok (.iload_n 1, 1) := by decide +kernel
theorem dX9_leastSize_6 : decode cX9_leastSize 6 = .ok (.ifCond .eq 9, 3) := by decide +kernel
theorem dX9_leastSize_9 : decode cX9_leastSize 9 = .ok (.aload_n 0, 1) := by decide +kernel
theorem dX9_leastSize_10 : decode cX9_leastSize 10 = .ok (.iload_n 1, 1) := by decide +kernel
theorem dX9_leastSize_11 : decode cX9_leastSize 11 = .ok (.invokevirtual 93, 3) := by decide +kernel
theorem dX9_leastSize_14 : decode cX9_leastSize 14 = .ok (.ireturn, 1) := by decide +kernel
theorem dX9_leastSize_15 : decode cX9_leastSize 15 = .ok (.aload_n 0, 1) := by decide +kernel
theorem dX9_leastSize_16 : decode cX9_leastSize 16 = .ok (.invokevirtual 199, 3) := by decide +kernel
theorem dX9_leastSize_19 : decode cX9_leastSize 19 = .ok (.aload_n 0, 1) := by decide +kernel
theorem dX9_leastSize_20 : decode cX9_leastSize 20 = .ok (.aload_n 0, 1) := by decide +kernel
theorem dX9_leastSize_21 : decode cX9_leastSize 21 = .ok (.getfield 193, 3) := by decide +kernel
theorem dX9_leastSize_24 : decode cX9_leastSize 24 = .ok (.invokevirtual 90, 3) := by decide +kernel
theorem dX9_leastSize_27 : decode cX9_leastSize 27 = .ok (.ireturn, 1) := by decide +kernel
theorem dX9_optimize_0 : decode cX9_optimize 0 = .ok (.aload_n 0, 1) := by decide +kernel
theorem dX9_optimize_1 : decode cX9_optimize 1 = .ok (.invokevirtual 196, 3) := by decide +kernel
theorem dX9_optimize_4 : decode cX9_optimize 4 = .ok (.istore_n 1, 1) := by decide +kernel
theorem dX9_optimize_5 : decode cX9_optimize 5 = .ok (.iload_n 1, 1) := by decide +kernel
theorem dX9_optimize_6 : decode cX9_optimize 6 = .ok (.ifCond .eq 9, 3) := by decide +kernel
theorem dX9_optimize_9 : decode cX9_optimize 9 = .ok (.aload_n 0, 1) := by decide +kernel
theorem dX9_optimize_10 : decode cX9_optimize 10 = .ok (.iload_n 1, 1) := by decide +kernel
theorem dX9_optimize_11 : decode cX9_optimize 11 = .ok (.invokevirtual 93, 3) := by decide +kernel
theorem dX9_optimize_14 : decode cX9_optimize 14 = .ok (.ireturn, 1) := by decide +kernel
theorem dX9_optimize_15 : decode cX9_optimize 15 = .ok (.aload_n 0, 1) := by decide +kernel
theorem dX9_optimize_16 : decode cX9_optimize 16 = .ok (.invokevirtual 131, 3) := by decide +kernel
theorem dX9_optimize_19 : decode cX9_optimize 19 = .ok (.aload_n 0, 1) := by decide +kernel
theorem dX9_optimize_20 : decode cX9_optimize 20 = .ok (.invokevirtual 199, 3) := by decide +kernel
theorem dX9_optimize_23 : decode cX9_optimize 23 = .ok (.aload_n 0, 1) := by decide +kernel
theorem dX9_optimize_24 : decode cX9_optimize 24 = .ok (.aload_n 0, 1) := by decide +kernel
theorem dX9_optimize_25 : decode cX9_optimize 25 = .ok (.getfield 184, 3) := by decide +kernel
theorem dX9_optimize_28 : decode cX9_optimize 28 = .ok (.aload_n 0, 1) := by decide +kernel
theorem dX9_optimize_29 : decode cX9_optimize 29 = .ok (.invokevirtual 156, 3) := by decide +kernel
theorem dX9_optimize_32 : decode cX9_optimize 32 = .ok (.invokevirtual 190, 3) := by decide +kernel
theorem dX9_optimize_35 : decode cX9_optimize 35 = .ok (.aload_n 0, 1) := by decide +kernel
theorem dX9_optimize_36 : decode cX9_optimize 36 = .ok (.aload_n 0, 1) := by decide +kernel
theorem dX9_optimize_37 : decode cX9_optimize 37 = .ok (.getfield 193, 3) := by decide +kernel
theorem dX9_optimize_40 : decode cX9_optimize 40 = .ok (.invokevirtual 90, 3) := by decide +kernel
theorem dX9_optimize_43 : decode cX9_optimize 43 = .ok (.ireturn, 1) := by decide +kernel
theorem dX9_consistentChoices_0 : decode cX9_consistentChoices 0 = .ok (.aload_n 0, 1) := by decide +kernel
theorem dX9_consistentChoices_1 : decode cX9_consistentChoices 1 = .ok (.invokevirtual 196, 3) := by decide +kernel
theorem dX9_consistentChoices_4 : decode cX9_consistentChoices 4 = .ok (.istore_n 1, 1) := by decide +kernel
theorem dX9_consistentChoices_5 : decode cX9_consistentChoices 5 = .ok (.iload_n 1, 1) := by decide +kernel
theorem dX9_consistentChoices_6 : decode cX9_consistentChoices 6 = .ok (.ifCond .eq 9, 3) := by decide +kernel
theorem dX9_consistentChoices_9 : decode cX9_consistentChoices 9 = .ok (.aload_n 0, 1) := by decide +kernel
theorem dX9_consistentChoices_10 : decode cX9_consistentChoices 10 = .ok (.iload_n 1, 1) := by decide +kernel
theorem dX9_consistentChoices_11 : decode cX9_consistentChoices 11 = .ok (.invokevirtual 93, 3) := by decide +kernel
theorem dX9_consistentChoices_14 : decode cX9_consistentChoices 14 = .ok (.ireturn, 1) := by decide +kernel
theorem dX9_consistentChoices_15 : decode cX9_consistentChoices 15 = .ok (.aload_n 0, 1) := by decide +kernel
theorem dX9_consistentChoices_16 : decode cX9_consistentChoices 16 = .ok (.invokevirtual 199, 3) := by decide +kernel
theorem dX9_consistentChoices_19 : decode cX9_consistentChoices 19 = .ok (.aload_n 0, 1) := by decide +kernel
theorem dX9_consistentChoices_20 : decode cX9_consistentChoices 20 = .ok (.aload_n 0, 1) := by decide +kernel
theorem dX9_consistentChoices_21 : decode cX9_consistentChoices 21 = .ok (.getfield 187, 3) := by decide +kernel
theorem dX9_consistentChoices_24 : decode cX9_consistentChoices 24 = .ok (.invokevirtual 90, 3) := by decide +kernel
theorem dX9_consistentChoices_27 : decode cX9_consistentChoices 27 = .ok (.ireturn, 1) := by decide +kernel
theorem dX9_averageForm_0 : decode cX9_averageForm 0 = .ok (.aload_n 0, 1) := by decide +kernel
theorem dX9_averageForm_1 : decode cX9_averageForm 1 = .ok (.invokevirtual 156, 3) := by decide +kernel
theorem dX9_averageForm_4 : decode cX9_averageForm 4 = .ok (.istore_n 1, 1) := by decide +kernel
theorem dX9_averageForm_5 : decode cX9_averageForm 5 = .ok (.aload_n 0, 1) := by decide +kernel
theorem dX9_averageForm_6 : decode cX9_averageForm 6 = .ok (.iload_n 1, 1) := by decide +kernel
theorem dX9_averageForm_7 : decode cX9_averageForm 7 = .ok (.ifCond .ne 7, 3) := by decide +kernel
theorem dX9_averageForm_10 : decode cX9_averageForm 10 = .ok (.iconst 1, 1) := by decide +kernel
theorem dX9_averageForm_11 : decode cX9_averageForm 11 = .ok (.goto 4, 3) := by decide +kernel
theorem dX9_averageForm_14 : decode cX9_averageForm 14 = .ok (.iconst 0, 1) := by decide +kernel
theorem dX9_averageForm_15 : decode cX9_averageForm 15 = .ok (.putfield 46, 3) := by decide +kernel
theorem dX9_averageForm_18 : decode cX9_averageForm 18 = .ok (.iload_n 1, 1) := by decide +kernel
theorem dX9_averageForm_19 : decode cX9_averageForm 19 = .ok (.ifCond .ne 5, 3) := by decide +kernel
theorem dX9_averageForm_22 : decode cX9_averageForm 22 = .ok (.dconst 0, 1) := by decide +kernel
theorem dX9_averageForm_23 : decode cX9_averageForm 23 = .ok (.dreturn, 1) := by decide +kernel
theorem dX9_averageForm_24 : decode cX9_averageForm 24 = .ok (.iconst 0, 1) := by decide +kernel
theorem dX9_averageForm_25 : decode cX9_averageForm 25 = .ok (.istore_n 2, 1) := by decide +kernel
theorem dX9_averageForm_26 : decode cX9_averageForm 26 = .ok (.iconst 0, 1) := by decide +kernel
theorem dX9_averageForm_27 : decode cX9_averageForm 27 = .ok (.istore_n 3, 1) := by decide +kernel
theorem dX9_averageForm_28 : decode cX9_averageForm 28 = .ok (.iload_n 3, 1) := by decide +kernel
theorem dX9_averageForm_29 : decode cX9_averageForm 29 = .ok (.aload_n 0, 1) := by decide +kernel
theorem dX9_averageForm_30 : decode cX9_averageForm 30 = .ok (.getfield 7, 3) := by decide +kernel
theorem dX9_averageForm_33 : decode cX9_averageForm 33 = .ok (.iconst 0, 1) := by decide +kernel
theorem dX9_averageForm_34 : decode cX9_averageForm 34 = .ok (.iaload, 1) := by decide +kernel
theorem dX9_averageForm_35 : decode cX9_averageForm 35 = .ok (.if_icmp .ge 29, 3) := by decide +kernel
theorem dX9_averageForm_38 : decode cX9_averageForm 38 = .ok (.iload_n 2, 1) := by decide +kernel
theorem dX9_averageForm_39 : decode cX9_averageForm 39 = .ok (.aload_n 0, 1) := by decide +kernel
theorem dX9_averageForm_40 : decode cX9_averageForm 40 = .ok (.iload_n 3, 1) := by decide +kernel
theorem dX9_averageForm_41 : decode cX9_averageForm 41 = .ok (.invokevirtual 146, 3) := by decide +kernel
theorem dX9_averageForm_44 : decode cX9_averageForm 44 = .ok (.ifCond .eq 11, 3) := by decide +kernel
theorem dX9_averageForm_47 : decode cX9_averageForm 47 = .ok (.aload_n 0, 1) := by decide +kernel
theorem dX9_averageForm_48 : decode cX9_averageForm 48 = .ok (.iload_n 3, 1) := by decide +kernel
theorem dX9_averageForm_49 : decode cX9_averageForm 49 = .ok (.invokevirtual 83, 3) := by decide +kernel
theorem dX9_averageForm_52 : decode cX9_averageForm 52 = .ok (.goto 4, 3) := by decide +kernel
theorem dX9_averageForm_55 : decode cX9_averageForm 55 = .ok (.iconst 0, 1) := by decide +kernel
theorem dX9_averageForm_56 : decode cX9_averageForm 56 = .ok (.iadd, 1) := by decide +kernel
theorem dX9_averageForm_57 : decode cX9_averageForm 57 = .ok (.istore_n 2, 1) := by decide +kernel
theorem dX9_averageForm_58 : decode cX9_averageForm 58 = .ok (.iinc 3 1, 3) := by decide +kernel
theorem dX9_averageForm_61 : decode cX9_averageForm 61 = .ok (.goto (-33), 3) := by decide +kernel
theorem dX9_averageForm_64 : decode cX9_averageForm 64 = .ok (.iload_n 2, 1) := by decide +kernel
theorem dX9_averageForm_65 : decode cX9_averageForm 65 = .ok (.i2d, 1) := by decide +kernel
theorem dX9_averageForm_66 : decode cX9_averageForm 66 = .ok (.iload_n 1, 1) := by decide +kernel
theorem dX9_averageForm_67 : decode cX9_averageForm 67 = .ok (.i2d, 1) := by decide +kernel
theorem dX9_averageForm_68 : decode cX9_averageForm 68 = .ok (.ddiv, 1) := by decide +kernel
theorem dX9_averageForm_69 : decode cX9_averageForm 69 = .ok (.dreturn, 1) := by decide +kernel
theorem dX9_pools_0 : decode cX9_pools 0 = .ok (.iconst 0, 1) := by decide +kernel
theorem dX9_pools_1 : decode cX9_pools 1 = .ok (.istore_n 1, 1) := by decide +kernel
theorem dX9_pools_2 : decode cX9_pools 2 = .ok (.iconst 0, 1) := by decide +kernel
theorem dX9_pools_3 : decode cX9_pools 3 = .ok (.istore_n 2, 1) := by decide +kernel
theorem dX9_pools_4 : decode cX9_pools 4 = .ok (.iload_n 2, 1) := by decide +kernel
theorem dX9_pools_5 : decode cX9_pools 5 = .ok (.aload_n 0, 1) := by decide +kernel
theorem dX9_pools_6 : decode cX9_pools 6 = .ok (.getfield 7, 3) := by decide +kernel
theorem dX9_pools_9 : decode cX9_pools 9 = .ok (.iconst 0, 1) := by decide +kernel
theorem dX9_pools_10 : decode cX9_pools 10 = .ok (.iaload, 1) := by decide +kernel
theorem dX9_pools_11 : decode cX9_pools 11 = .ok (.if_icmp .ge 27, 3) := by decide +kernel
theorem dX9_pools_14 : decode cX9_pools 14 = .ok (.iload_n 1, 1) := by decide +kernel
theorem dX9_pools_15 : decode cX9_pools 15 = .ok (.aload_n 0, 1) := by decide +kernel
theorem dX9_pools_16 : decode cX9_pools 16 = .ok (.iload_n 2, 1) := by decide +kernel
theorem dX9_pools_17 : decode cX9_pools 17 = .ok (.invokevirtual 53, 3) := by decide +kernel
theorem dX9_pools_20 : decode cX9_pools 20 = .ok (.bipush 7, 2) := by decide +kernel
theorem dX9_pools_22 : decode cX9_pools 22 = .ok (.if_icmp .ne 7, 3) := by decide +kernel
theorem dX9_pools_25 : decode cX9_pools 25 = .ok (.iconst 1, 1) := by decide +kernel
theorem dX9_pools_26 : decode cX9_pools 26 = .ok (.goto 4, 3) := by decide +kernel
theorem dX9_pools_29 : decode cX9_pools 29 = .ok (.iconst 0, 1) := by decide +kernel
theorem dX9_pools_30 : decode cX9_pools 30 = .ok (.iadd, 1) := by decide +kernel
theorem dX9_pools_31 : decode cX9_pools 31 = .ok (.istore_n 1, 1) := by decide +kernel
theorem dX9_pools_32 : decode cX9_pools 32 = .ok (.iinc 2 1, 3) := by decide +kernel
theorem dX9_pools_35 : decode cX9_pools 35 = .ok (.goto (-31), 3) := by decide +kernel
theorem dX9_pools_38 : decode cX9_pools 38 = .ok (.iload_n 1, 1) := by decide +kernel
theorem dX9_pools_39 : decode cX9_pools 39 = .ok (.ireturn, 1) := by decide +kernel
theorem dX9_placeOf_0 : decode cX9_placeOf 0 = .ok (.iload_n 1, 1) := by decide +kernel
theorem dX9_placeOf_1 : decode cX9_placeOf 1 = .ok (.istore_n 2, 1) := by decide +kernel
theorem dX9_placeOf_2 : decode cX9_placeOf 2 = .ok (.iconst 0, 1) := by decide +kernel
theorem dX9_placeOf_3 : decode cX9_placeOf 3 = .ok (.istore_n 3, 1) := by decide +kernel
theorem dX9_placeOf_4 : decode cX9_placeOf 4 = .ok (.iload_n 3, 1) := by decide +kernel
theorem dX9_placeOf_5 : decode cX9_placeOf 5 = .ok (.aload_n 0, 1) := by decide +kernel
theorem dX9_placeOf_6 : decode cX9_placeOf 6 = .ok (.getfield 7, 3) := by decide +kernel
theorem dX9_placeOf_9 : decode cX9_placeOf 9 = .ok (.iconst 0, 1) := by decide +kernel
theorem dX9_placeOf_10 : decode cX9_placeOf 10 = .ok (.iaload, 1) := by decide +kernel
theorem dX9_placeOf_11 : decode cX9_placeOf 11 = .ok (.if_icmp .ge 41, 3) := by decide +kernel
theorem dX9_placeOf_14 : decode cX9_placeOf 14 = .ok (.aload_n 0, 1) := by decide +kernel
theorem dX9_placeOf_15 : decode cX9_placeOf 15 = .ok (.iload_n 3, 1) := by decide +kernel
theorem dX9_placeOf_16 : decode cX9_placeOf 16 = .ok (.invokevirtual 53, 3) := by decide +kernel
theorem dX9_placeOf_19 : decode cX9_placeOf 19 = .ok (.bipush 7, 2) := by decide +kernel
theorem dX9_placeOf_21 : decode cX9_placeOf 21 = .ok (.if_icmp .ne 7, 3) := by decide +kernel
theorem dX9_placeOf_24 : decode cX9_placeOf 24 = .ok (.iload_n 2, 1) := by decide +kernel
theorem dX9_placeOf_25 : decode cX9_placeOf 25 = .ok (.ifCond .le 27, 3) := by decide +kernel
theorem dX9_placeOf_28 : decode cX9_placeOf 28 = .ok (.iload_n 2, 1) := by decide +kernel
theorem dX9_placeOf_29 : decode cX9_placeOf 29 = .ok (.aload_n 0, 1) := by decide +kernel
theorem dX9_placeOf_30 : decode cX9_placeOf 30 = .ok (.iload_n 3, 1) := by decide +kernel
theorem dX9_placeOf_31 : decode cX9_placeOf 31 = .ok (.invokevirtual 53, 3) := by decide +kernel
theorem dX9_placeOf_34 : decode cX9_placeOf 34 = .ok (.bipush 7, 2) := by decide +kernel
theorem dX9_placeOf_36 : decode cX9_placeOf 36 = .ok (.if_icmp .ne 7, 3) := by decide +kernel
theorem dX9_placeOf_39 : decode cX9_placeOf 39 = .ok (.iconst 1, 1) := by decide +kernel
theorem dX9_placeOf_40 : decode cX9_placeOf 40 = .ok (.goto 4, 3) := by decide +kernel
theorem dX9_placeOf_43 : decode cX9_placeOf 43 = .ok (.iconst 0, 1) := by decide +kernel
theorem dX9_placeOf_44 : decode cX9_placeOf 44 = .ok (.isub, 1) := by decide +kernel
theorem dX9_placeOf_45 : decode cX9_placeOf 45 = .ok (.istore_n 2, 1) := by decide +kernel
theorem dX9_placeOf_46 : decode cX9_placeOf 46 = .ok (.iinc 3 1, 3) := by decide +kernel
theorem dX9_placeOf_49 : decode cX9_placeOf 49 = .ok (.goto (-45), 3) := by decide +kernel
theorem dX9_placeOf_52 : decode cX9_placeOf 52 = .ok (.iload_n 3, 1) := by decide +kernel
theorem dX9_placeOf_53 : decode cX9_placeOf 53 = .ok (.ireturn, 1) := by decide +kernel
theorem dX9_poolCount_0 : decode cX9_poolCount 0 = .ok (.aload_n 0, 1) := by decide +kernel
theorem dX9_poolCount_1 : decode cX9_poolCount 1 = .ok (.aload_n 0, 1) := by decide +kernel
theorem dX9_poolCount_2 : decode cX9_poolCount 2 = .ok (.invokevirtual 202, 3) := by decide +kernel
theorem dX9_poolCount_5 : decode cX9_poolCount 5 = .ok (.invokevirtual 90, 3) := by decide +kernel
theorem dX9_poolCount_8 : decode cX9_poolCount 8 = .ok (.ireturn, 1) := by decide +kernel
theorem dX9_literalCount_0 : decode cX9_literalCount 0 = .ok (.iload_n 1, 1) := by decide +kernel
theorem dX9_literalCount_1 : decode cX9_literalCount 1 = .ok (.iconst 0, 1) := by decide +kernel
theorem dX9_literalCount_2 : decode cX9_literalCount 2 = .ok (.aload_n 0, 1) := by decide +kernel
theorem dX9_literalCount_3 : decode cX9_literalCount 3 = .ok (.invokevirtual 202, 3) := by decide +kernel
theorem dX9_literalCount_6 : decode cX9_literalCount 6 = .ok (.invokestatic 49, 3) := by decide +kernel
theorem dX9_literalCount_9 : decode cX9_literalCount 9 = .ok (.ifCond .ne 9, 3) := by decide +kernel
theorem dX9_literalCount_12 : decode cX9_literalCount 12 = .ok (.aload_n 0, 1) := by decide +kernel
theorem dX9_literalCount_13 : decode cX9_literalCount 13 = .ok (.iconst 1, 1) := by decide +kernel
theorem dX9_literalCount_14 : decode cX9_literalCount 14 = .ok (.invokevirtual 93, 3) := by decide +kernel
theorem dX9_literalCount_17 : decode cX9_literalCount 17 = .ok (.ireturn, 1) := by decide +kernel
theorem dX9_literalCount_18 : decode cX9_literalCount 18 = .ok (.aload_n 0, 1) := by decide +kernel
theorem dX9_literalCount_19 : decode cX9_literalCount 19 = .ok (.aload_n 0, 1) := by decide +kernel
theorem dX9_literalCount_20 : decode cX9_literalCount 20 = .ok (.iload_n 1, 1) := by decide +kernel
theorem dX9_literalCount_21 : decode cX9_literalCount 21 = .ok (.invokevirtual 205, 3) := by decide +kernel
theorem dX9_literalCount_24 : decode cX9_literalCount 24 = .ok (.invokevirtual 69, 3) := by decide +kernel
theorem dX9_literalCount_27 : decode cX9_literalCount 27 = .ok (.aload_n 0, 1) := by decide +kernel
theorem dX9_literalCount_28 : decode cX9_literalCount 28 = .ok (.aload_n 0, 1) := by decide +kernel
theorem dX9_literalCount_29 : decode cX9_literalCount 29 = .ok (.getfield 60, 3) := by decide +kernel
theorem dX9_literalCount_32 : decode cX9_literalCount 32 = .ok (.invokevirtual 90, 3) := by decide +kernel
theorem dX9_literalCount_35 : decode cX9_literalCount 35 = .ok (.ireturn, 1) := by decide +kernel
theorem dX9_literal_0 : decode cX9_literal 0 = .ok (.iload_n 1, 1) := by decide +kernel
theorem dX9_literal_1 : decode cX9_literal 1 = .ok (.iconst 0, 1) := by decide +kernel
theorem dX9_literal_2 : decode cX9_literal 2 = .ok (.aload_n 0, 1) := by decide +kernel
theorem dX9_literal_3 : decode cX9_literal 3 = .ok (.invokevirtual 202, 3) := by decide +kernel
theorem dX9_literal_6 : decode cX9_literal 6 = .ok (.invokestatic 49, 3) := by decide +kernel
theorem dX9_literal_9 : decode cX9_literal 9 = .ok (.ifCond .ne 9, 3) := by decide +kernel
theorem dX9_literal_12 : decode cX9_literal 12 = .ok (.aload_n 0, 1) := by decide +kernel
theorem dX9_literal_13 : decode cX9_literal 13 = .ok (.iconst 1, 1) := by decide +kernel
theorem dX9_literal_14 : decode cX9_literal 14 = .ok (.invokevirtual 93, 3) := by decide +kernel
theorem dX9_literal_17 : decode cX9_literal 17 = .ok (.ireturn, 1) := by decide +kernel
theorem dX9_literal_18 : decode cX9_literal 18 = .ok (.aload_n 0, 1) := by decide +kernel
theorem dX9_literal_19 : decode cX9_literal 19 = .ok (.aload_n 0, 1) := by decide +kernel
theorem dX9_literal_20 : decode cX9_literal 20 = .ok (.iload_n 1, 1) := by decide +kernel
theorem dX9_literal_21 : decode cX9_literal 21 = .ok (.invokevirtual 205, 3) := by decide +kernel
theorem dX9_literal_24 : decode cX9_literal 24 = .ok (.invokevirtual 69, 3) := by decide +kernel
theorem dX9_literal_27 : decode cX9_literal 27 = .ok (.iload_n 2, 1) := by decide +kernel
theorem dX9_literal_28 : decode cX9_literal 28 = .ok (.iconst 0, 1) := by decide +kernel
theorem dX9_literal_29 : decode cX9_literal 29 = .ok (.aload_n 0, 1) := by decide +kernel
theorem dX9_literal_30 : decode cX9_literal 30 = .ok (.getfield 60, 3) := by decide +kernel
theorem dX9_literal_33 : decode cX9_literal 33 = .ok (.iconst 1, 1) := by decide +kernel
theorem dX9_literal_34 : decode cX9_literal 34 = .ok (.isub, 1) := by decide +kernel
theorem dX9_literal_35 : decode cX9_literal 35 = .ok (.invokestatic 49, 3) := by decide +kernel
theorem dX9_literal_38 : decode cX9_literal 38 = .ok (.ifCond .eq 16, 3) := by decide +kernel
theorem dX9_literal_41 : decode cX9_literal 41 = .ok (.aload_n 0, 1) := by decide +kernel
theorem dX9_literal_42 : decode cX9_literal 42 = .ok (.aload_n 0, 1) := by decide +kernel
theorem dX9_literal_43 : decode cX9_literal 43 = .ok (.getfield 30, 3) := by decide +kernel
theorem dX9_literal_46 : decode cX9_literal 46 = .ok (.iload_n 2, 1) := by decide +kernel
theorem dX9_literal_47 : decode cX9_literal 47 = .ok (.iaload, 1) := by decide +kernel
theorem dX9_literal_48 : decode cX9_literal 48 = .ok (.invokevirtual 90, 3) := by decide +kernel
theorem dX9_literal_51 : decode cX9_literal 51 = .ok (.goto 8, 3) := by decide +kernel
theorem dX9_literal_54 : decode cX9_literal 54 = .ok (.aload_n 0, 1) := by decide +kernel
theorem dX9_literal_55 : decode cX9_literal 55 = .ok (.iconst 1, 1) := by decide +kernel
theorem dX9_literal_56 : decode cX9_literal 56 = .ok (.invokevirtual 93, 3) := by decide +kernel
theorem dX9_literal_59 : decode cX9_literal 59 = .ok (.ireturn, 1) := by decide +kernel
theorem dX9_literalAddress_0 : decode cX9_literalAddress 0 = .ok (.iload_n 1, 1) := by decide +kernel
theorem dX9_literalAddress_1 : decode cX9_literalAddress 1 = .ok (.iconst 0, 1) := by decide +kernel
theorem dX9_literalAddress_2 : decode cX9_literalAddress 2 = .ok (.aload_n 0, 1) := by decide +kernel
theorem dX9_literalAddress_3 : decode cX9_literalAddress 3 = .ok (.invokevirtual 202, 3) := by decide +kernel
theorem dX9_literalAddress_6 : decode cX9_literalAddress 6 = .ok (.invokestatic 49, 3) := by decide +kernel
theorem dX9_literalAddress_9 : decode cX9_literalAddress 9 = .ok (.ifCond .ne 9, 3) := by decide +kernel
theorem dX9_literalAddress_12 : decode cX9_literalAddress 12 = .ok (.aload_n 0, 1) := by decide +kernel
theorem dX9_literalAddress_13 : decode cX9_literalAddress 13 = .ok (.iconst 1, 1) := by decide +kernel
theorem dX9_literalAddress_14 : decode cX9_literalAddress 14 = .ok (.invokevirtual 93, 3) := by decide +kernel
theorem dX9_literalAddress_17 : decode cX9_literalAddress 17 = .ok (.ireturn, 1) := by decide +kernel
theorem dX9_literalAddress_18 : decode cX9_literalAddress 18 = .ok (.aload_n 0, 1) := by decide +kernel
theorem dX9_literalAddress_19 : decode cX9_literalAddress 19 = .ok (.invokevirtual 143, 3) := by decide +kernel
theorem dX9_literalAddress_22 : decode cX9_literalAddress 22 = .ok (.aload_n 0, 1) := by decide +kernel
theorem dX9_literalAddress_23 : decode cX9_literalAddress 23 = .ok (.iload_n 1, 1) := by decide +kernel
theorem dX9_literalAddress_24 : decode cX9_literalAddress 24 = .ok (.invokevirtual 205, 3) := by decide +kernel
theorem dX9_literalAddress_27 : decode cX9_literalAddress 27 = .ok (.istore_n 3, 1) := by decide +kernel
theorem dX9_literalAddress_28 : decode cX9_literalAddress 28 = .ok (.aload_n 0, 1) := by decide +kernel
theorem dX9_literalAddress_29 : decode cX9_literalAddress 29 = .ok (.iload_n 3, 1) := by decide +kernel
theorem dX9_literalAddress_30 : decode cX9_literalAddress 30 = .ok (.invokevirtual 69, 3) := by decide +kernel
theorem dX9_literalAddress_33 : decode cX9_literalAddress 33 = .ok (.iload_n 2, 1) := by decide +kernel
theorem dX9_literalAddress_34 : decode cX9_literalAddress 34 = .ok (.iconst 0, 1) := by decide +kernel
theorem dX9_literalAddress_35 : decode cX9_literalAddress 35 = .ok (.aload_n 0, 1) := by decide +kernel
theorem dX9_literalAddress_36 : decode cX9_literalAddress 36 = .ok (.getfield 60, 3) := by decide +kernel
theorem dX9_literalAddress_39 : decode cX9_literalAddress 39 = .ok (.iconst 1, 1) := by decide +kernel
theorem dX9_literalAddress_40 : decode cX9_literalAddress 40 = .ok (.isub, 1) := by decide +kernel
theorem dX9_literalAddress_41 : decode cX9_literalAddress 41 = .ok (.invokestatic 49, 3) := by decide +kernel
theorem dX9_literalAddress_44 : decode cX9_literalAddress 44 = .ok (.ifCond .eq 24, 3) := by decide +kernel
theorem dX9_literalAddress_47 : decode cX9_literalAddress 47 = .ok (.aload_n 0, 1) := by decide +kernel
theorem dX9_literalAddress_48 : decode cX9_literalAddress 48 = .ok (.aload_n 0, 1) := by decide +kernel
theorem dX9_literalAddress_49 : decode cX9_literalAddress 49 = .ok (.getfield 27, 3) := by decide +kernel
theorem dX9_literalAddress_52 : decode cX9_literalAddress 52 = .ok (.iload_n 3, 1) := by decide +kernel
theorem dX9_literalAddress_53 : decode cX9_literalAddress 53 = .ok (.iaload, 1) := by decide +kernel
theorem dX9_literalAddress_54 : decode cX9_literalAddress 54 = .ok (.iconst 4, 1) := by decide +kernel
theorem dX9_literalAddress_55 : decode cX9_literalAddress 55 = .ok (.invokestatic 73, 3) := by decide +kernel
theorem dX9_literalAddress_58 : decode cX9_literalAddress 58 = .ok (.iconst 4, 1) := by decide +kernel
theorem dX9_literalAddress_59 : decode cX9_literalAddress 59 = .ok (.iload_n 2, 1) := by decide +kernel
theorem dX9_literalAddress_60 : decode cX9_literalAddress 60 = .ok (.imul, 1) := by decide +kernel
theorem dX9_literalAddress_61 : decode cX9_literalAddress 61 = .ok (.iadd, 1) := by decide +kernel
theorem dX9_literalAddress_62 : decode cX9_literalAddress 62 = .ok (.invokevirtual 90, 3) := by decide +kernel
theorem dX9_literalAddress_65 : decode cX9_literalAddress 65 = .ok (.goto 8, 3) := by decide +kernel
theorem dX9_literalAddress_68 : decode cX9_literalAddress 68 = .ok (.aload_n 0, 1) := by decide +kernel
theorem dX9_literalAddress_69 : decode cX9_literalAddress 69 = .ok (.iconst 1, 1) := by decide +kernel
theorem dX9_literalAddress_70 : decode cX9_literalAddress 70 = .ok (.invokevirtual 93, 3) := by decide +kernel
theorem dX9_literalAddress_73 : decode cX9_literalAddress 73 = .ok (.ireturn, 1) := by decide +kernel
theorem dX9_poolPlace_0 : decode cX9_poolPlace 0 = .ok (.iload_n 1, 1) := by decide +kernel
theorem dX9_poolPlace_1 : decode cX9_poolPlace 1 = .ok (.istore_n 2, 1) := by decide +kernel
theorem dX9_poolPlace_2 : decode cX9_poolPlace 2 = .ok (.iload_n 2, 1) := by decide +kernel
theorem dX9_poolPlace_3 : decode cX9_poolPlace 3 = .ok (.aload_n 0, 1) := by decide +kernel
theorem dX9_poolPlace_4 : decode cX9_poolPlace 4 = .ok (.getfield 7, 3) := by decide +kernel
theorem dX9_poolPlace_7 : decode cX9_poolPlace 7 = .ok (.iconst 0, 1) := by decide +kernel
theorem dX9_poolPlace_8 : decode cX9_poolPlace 8 = .ok (.iaload, 1) := by decide +kernel
theorem dX9_poolPlace_9 : decode cX9_poolPlace 9 = .ok (.if_icmp .ge 19, 3) := by decide +kernel
theorem dX9_poolPlace_12 : decode cX9_poolPlace 12 = .ok (.aload_n 0, 1) := by decide +kernel
theorem dX9_poolPlace_13 : decode cX9_poolPlace 13 = .ok (.iload_n 2, 1) := by decide +kernel
theorem dX9_poolPlace_14 : decode cX9_poolPlace 14 = .ok (.invokevirtual 53, 3) := by decide +kernel
theorem dX9_poolPlace_17 : decode cX9_poolPlace 17 = .ok (.bipush 7, 2) := by decide +kernel
theorem dX9_poolPlace_19 : decode cX9_poolPlace 19 = .ok (.if_icmp .eq 9, 3) := by decide +kernel
theorem dX9_poolPlace_22 : decode cX9_poolPlace 22 = .ok (.iinc 2 1, 3) := by decide +kernel
theorem dX9_poolPlace_25 : decode cX9_poolPlace 25 = .ok (.goto (-23), 3) := by decide +kernel
theorem dX9_poolPlace_28 : decode cX9_poolPlace 28 = .ok (.iload_n 2, 1) := by decide +kernel
theorem dX9_poolPlace_29 : decode cX9_poolPlace 29 = .ok (.ireturn, 1) := by decide +kernel
end
section
theorem dX9_lacksLoad_0 : decode cX9_lacksLoad 0 = .ok (.aload_n 0, 1) := by decide +kernel
theorem dX9_lacksLoad_1 : decode cX9_lacksLoad 1 = .ok (.iload_n 1, 1) := by decide +kernel
theorem dX9_lacksLoad_2 : decode cX9_lacksLoad 2 = .ok (.invokevirtual 137, 3) := by decide +kernel
theorem dX9_lacksLoad_5 : decode cX9_lacksLoad 5 = .ok (.ifCond .ne 7, 3) := by decide +kernel
theorem dX9_lacksLoad_8 : decode cX9_lacksLoad 8 = .ok (.iconst 1, 1) := by decide +kernel
theorem dX9_lacksLoad_9 : decode cX9_lacksLoad 9 = .ok (.goto 18, 3) := by decide +kernel
theorem dX9_lacksLoad_12 : decode cX9_lacksLoad 12 = .ok (.aload_n 0, 1) := by decide +kernel
theorem dX9_lacksLoad_13 : decode cX9_lacksLoad 13 = .ok (.iload_n 1, 1) := by decide +kernel
theorem dX9_lacksLoad_14 : decode cX9_lacksLoad 14 = .ok (.invokevirtual 53, 3) := by decide +kernel
theorem dX9_lacksLoad_17 : decode cX9_lacksLoad 17 = .ok (.bipush 6, 2) := by decide +kernel
theorem dX9_lacksLoad_19 : decode cX9_lacksLoad 19 = .ok (.if_icmp .eq 7, 3) := by decide +kernel
theorem dX9_lacksLoad_22 : decode cX9_lacksLoad 22 = .ok (.iconst 2, 1) := by decide +kernel
theorem dX9_lacksLoad_23 : decode cX9_lacksLoad 23 = .ok (.goto 4, 3) := by decide +kernel
theorem dX9_lacksLoad_26 : decode cX9_lacksLoad 26 = .ok (.iconst 0, 1) := by decide +kernel
theorem dX9_lacksLoad_27 : decode cX9_lacksLoad 27 = .ok (.ireturn, 1) := by decide +kernel
theorem dX9_poolOf_0 : decode cX9_poolOf 0 = .ok (.aload_n 0, 1) := by decide +kernel
theorem dX9_poolOf_1 : decode cX9_poolOf 1 = .ok (.iload_n 1, 1) := by decide +kernel
theorem dX9_poolOf_2 : decode cX9_poolOf 2 = .ok (.invokevirtual 208, 3) := by decide +kernel
theorem dX9_poolOf_5 : decode cX9_poolOf 5 = .ok (.istore_n 2, 1) := by decide +kernel
theorem dX9_poolOf_6 : decode cX9_poolOf 6 = .ok (.iload_n 2, 1) := by decide +kernel
theorem dX9_poolOf_7 : decode cX9_poolOf 7 = .ok (.ifCond .eq 9, 3) := by decide +kernel
theorem dX9_poolOf_10 : decode cX9_poolOf 10 = .ok (.aload_n 0, 1) := by decide +kernel
theorem dX9_poolOf_11 : decode cX9_poolOf 11 = .ok (.iload_n 2, 1) := by decide +kernel
theorem dX9_poolOf_12 : decode cX9_poolOf 12 = .ok (.invokevirtual 93, 3) := by decide +kernel
theorem dX9_poolOf_15 : decode cX9_poolOf 15 = .ok (.ireturn, 1) := by decide +kernel
theorem dX9_poolOf_16 : decode cX9_poolOf 16 = .ok (.iconst 0, 1) := by decide +kernel
theorem dX9_poolOf_17 : decode cX9_poolOf 17 = .ok (.istore_n 3, 1) := by decide +kernel
theorem dX9_poolOf_18 : decode cX9_poolOf 18 = .ok (.iconst 0, 1) := by decide +kernel
theorem dX9_poolOf_19 : decode cX9_poolOf 19 = .ok (.istore 4, 2) := by decide +kernel
theorem dX9_poolOf_21 : decode cX9_poolOf 21 = .ok (.iload 4, 2) := by decide +kernel
theorem dX9_poolOf_23 : decode cX9_poolOf 23 = .ok (.iload_n 1, 1) := by decide +kernel
theorem dX9_poolOf_24 : decode cX9_poolOf 24 = .ok (.if_icmp .ge 28, 3) := by decide +kernel
theorem dX9_poolOf_27 : decode cX9_poolOf 27 = .ok (.iload_n 3, 1) := by decide +kernel
theorem dX9_poolOf_28 : decode cX9_poolOf 28 = .ok (.aload_n 0, 1) := by decide +kernel
theorem dX9_poolOf_29 : decode cX9_poolOf 29 = .ok (.iload 4, 2) := by decide +kernel
theorem dX9_poolOf_31 : decode cX9_poolOf 31 = .ok (.invokevirtual 53, 3) := by decide +kernel
theorem dX9_poolOf_34 : decode cX9_poolOf 34 = .ok (.bipush 7, 2) := by decide +kernel
theorem dX9_poolOf_36 : decode cX9_poolOf 36 = .ok (.if_icmp .ne 7, 3) := by decide +kernel
theorem dX9_poolOf_39 : decode cX9_poolOf 39 = .ok (.iconst 1, 1) := by decide +kernel
theorem dX9_poolOf_40 : decode cX9_poolOf 40 = .ok (.goto 4, 3) := by decide +kernel
theorem dX9_poolOf_43 : decode cX9_poolOf 43 = .ok (.iconst 0, 1) := by decide +kernel
theorem dX9_poolOf_44 : decode cX9_poolOf 44 = .ok (.iadd, 1) := by decide +kernel
theorem dX9_poolOf_45 : decode cX9_poolOf 45 = .ok (.istore_n 3, 1) := by decide +kernel
theorem dX9_poolOf_46 : decode cX9_poolOf 46 = .ok (.iinc 4 1, 3) := by decide +kernel
theorem dX9_poolOf_49 : decode cX9_poolOf 49 = .ok (.goto (-28), 3) := by decide +kernel
theorem dX9_poolOf_52 : decode cX9_poolOf 52 = .ok (.aload_n 0, 1) := by decide +kernel
theorem dX9_poolOf_53 : decode cX9_poolOf 53 = .ok (.iload_n 3, 1) := by decide +kernel
theorem dX9_poolOf_54 : decode cX9_poolOf 54 = .ok (.invokevirtual 90, 3) := by decide +kernel
theorem dX9_poolOf_57 : decode cX9_poolOf 57 = .ok (.ireturn, 1) := by decide +kernel
theorem dX9_far_0 : decode cX9_far 0 = .ok (.aload_n 0, 1) := by decide +kernel
theorem dX9_far_1 : decode cX9_far 1 = .ok (.iload_n 1, 1) := by decide +kernel
theorem dX9_far_2 : decode cX9_far 2 = .ok (.invokevirtual 211, 3) := by decide +kernel
theorem dX9_far_5 : decode cX9_far 5 = .ok (.istore_n 3, 1) := by decide +kernel
theorem dX9_far_6 : decode cX9_far 6 = .ok (.aload_n 0, 1) := by decide +kernel
theorem dX9_far_7 : decode cX9_far 7 = .ok (.iload_n 3, 1) := by decide +kernel
theorem dX9_far_8 : decode cX9_far 8 = .ok (.invokevirtual 69, 3) := by decide +kernel
theorem dX9_far_11 : decode cX9_far 11 = .ok (.aload_n 0, 1) := by decide +kernel
theorem dX9_far_12 : decode cX9_far 12 = .ok (.getfield 27, 3) := by decide +kernel
theorem dX9_far_15 : decode cX9_far 15 = .ok (.iload_n 3, 1) := by decide +kernel
theorem dX9_far_16 : decode cX9_far 16 = .ok (.iaload, 1) := by decide +kernel
theorem dX9_far_17 : decode cX9_far 17 = .ok (.iload_n 2, 1) := by decide +kernel
theorem dX9_far_18 : decode cX9_far 18 = .ok (.iadd, 1) := by decide +kernel
theorem dX9_far_19 : decode cX9_far 19 = .ok (.iconst 4, 1) := by decide +kernel
theorem dX9_far_20 : decode cX9_far 20 = .ok (.invokestatic 73, 3) := by decide +kernel
theorem dX9_far_23 : decode cX9_far 23 = .ok (.iconst 4, 1) := by decide +kernel
theorem dX9_far_24 : decode cX9_far 24 = .ok (.aload_n 0, 1) := by decide +kernel
theorem dX9_far_25 : decode cX9_far 25 = .ok (.aload_n 0, 1) := by decide +kernel
theorem dX9_far_26 : decode cX9_far 26 = .ok (.iload_n 1, 1) := by decide +kernel
theorem dX9_far_27 : decode cX9_far 27 = .ok (.invokevirtual 63, 3) := by decide +kernel
theorem dX9_far_30 : decode cX9_far 30 = .ok (.invokevirtual 66, 3) := by decide +kernel
theorem dX9_far_33 : decode cX9_far 33 = .ok (.imul, 1) := by decide +kernel
theorem dX9_far_34 : decode cX9_far 34 = .ok (.iadd, 1) := by decide +kernel
theorem dX9_far_35 : decode cX9_far 35 = .ok (.aload_n 0, 1) := by decide +kernel
theorem dX9_far_36 : decode cX9_far 36 = .ok (.getfield 27, 3) := by decide +kernel
theorem dX9_far_39 : decode cX9_far 39 = .ok (.iload_n 1, 1) := by decide +kernel
theorem dX9_far_40 : decode cX9_far 40 = .ok (.iconst 1, 1) := by decide +kernel
theorem dX9_far_41 : decode cX9_far 41 = .ok (.iadd, 1) := by decide +kernel
theorem dX9_far_42 : decode cX9_far 42 = .ok (.iaload, 1) := by decide +kernel
theorem dX9_far_43 : decode cX9_far 43 = .ok (.isub, 1) := by decide +kernel
theorem dX9_far_44 : decode cX9_far 44 = .ok (.ireturn, 1) := by decide +kernel
theorem dX9_distance_0 : decode cX9_distance 0 = .ok (.aload_n 0, 1) := by decide +kernel
theorem dX9_distance_1 : decode cX9_distance 1 = .ok (.iload_n 1, 1) := by decide +kernel
theorem dX9_distance_2 : decode cX9_distance 2 = .ok (.invokevirtual 208, 3) := by decide +kernel
theorem dX9_distance_5 : decode cX9_distance 5 = .ok (.istore_n 2, 1) := by decide +kernel
theorem dX9_distance_6 : decode cX9_distance 6 = .ok (.iload_n 2, 1) := by decide +kernel
theorem dX9_distance_7 : decode cX9_distance 7 = .ok (.ifCond .eq 9, 3) := by decide +kernel
theorem dX9_distance_10 : decode cX9_distance 10 = .ok (.aload_n 0, 1) := by decide +kernel
theorem dX9_distance_11 : decode cX9_distance 11 = .ok (.iload_n 2, 1) := by decide +kernel
theorem dX9_distance_12 : decode cX9_distance 12 = .ok (.invokevirtual 93, 3) := by decide +kernel
theorem dX9_distance_15 : decode cX9_distance 15 = .ok (.ireturn, 1) := by decide +kernel
theorem dX9_distance_16 : decode cX9_distance 16 = .ok (.aload_n 0, 1) := by decide +kernel
theorem dX9_distance_17 : decode cX9_distance 17 = .ok (.invokevirtual 143, 3) := by decide +kernel
theorem dX9_distance_20 : decode cX9_distance 20 = .ok (.aload_n 0, 1) := by decide +kernel
theorem dX9_distance_21 : decode cX9_distance 21 = .ok (.aload_n 0, 1) := by decide +kernel
theorem dX9_distance_22 : decode cX9_distance 22 = .ok (.iload_n 1, 1) := by decide +kernel
theorem dX9_distance_23 : decode cX9_distance 23 = .ok (.iconst 0, 1) := by decide +kernel
theorem dX9_distance_24 : decode cX9_distance 24 = .ok (.invokevirtual 214, 3) := by decide +kernel
theorem dX9_distance_27 : decode cX9_distance 27 = .ok (.invokevirtual 90, 3) := by decide +kernel
theorem dX9_distance_30 : decode cX9_distance 30 = .ok (.ireturn, 1) := by decide +kernel
theorem dX9_loadsOutOfReach_0 : decode cX9_loadsOutOfReach 0 = .ok (.aload_n 0, 1) := by decide +kernel
theorem dX9_loadsOutOfReach_1 : decode cX9_loadsOutOfReach 1 = .ok (.invokevirtual 143, 3) := by decide +kernel
theorem dX9_loadsOutOfReach_4 : decode cX9_loadsOutOfReach 4 = .ok (.iconst 0, 1) := by decide +kernel
theorem dX9_loadsOutOfReach_5 : decode cX9_loadsOutOfReach 5 = .ok (.istore_n 1, 1) := by decide +kernel
theorem dX9_loadsOutOfReach_6 : decode cX9_loadsOutOfReach 6 = .ok (.iconst 0, 1) := by decide +kernel
theorem dX9_loadsOutOfReach_7 : decode cX9_loadsOutOfReach 7 = .ok (.istore_n 2, 1) := by decide +kernel
theorem dX9_loadsOutOfReach_8 : decode cX9_loadsOutOfReach 8 = .ok (.iload_n 2, 1) := by decide +kernel
theorem dX9_loadsOutOfReach_9 : decode cX9_loadsOutOfReach 9 = .ok (.aload_n 0, 1) := by decide +kernel
theorem dX9_loadsOutOfReach_10 : decode cX9_loadsOutOfReach 10 = .ok (.getfield 7, 3) := by decide +kernel
theorem dX9_loadsOutOfReach_13 : decode cX9_loadsOutOfReach 13 = .ok (.iconst 0, 1) := by decide +kernel
theorem dX9_loadsOutOfReach_14 : decode cX9_loadsOutOfReach 14 = .ok (.iaload, 1) := by decide +kernel
theorem dX9_loadsOutOfReach_15 : decode cX9_loadsOutOfReach 15 = .ok (.if_icmp .ge 38, 3) := by decide +kernel
theorem dX9_loadsOutOfReach_18 : decode cX9_loadsOutOfReach 18 = .ok (.iload_n 1, 1) := by decide +kernel
theorem dX9_loadsOutOfReach_19 : decode cX9_loadsOutOfReach 19 = .ok (.aload_n 0, 1) := by decide +kernel
theorem dX9_loadsOutOfReach_20 : decode cX9_loadsOutOfReach 20 = .ok (.iload_n 2, 1) := by decide +kernel
theorem dX9_loadsOutOfReach_21 : decode cX9_loadsOutOfReach 21 = .ok (.invokevirtual 53, 3) := by decide +kernel
theorem dX9_loadsOutOfReach_24 : decode cX9_loadsOutOfReach 24 = .ok (.bipush 6, 2) := by decide +kernel
theorem dX9_loadsOutOfReach_26 : decode cX9_loadsOutOfReach 26 = .ok (.if_icmp .ne 18, 3) := by decide +kernel
theorem dX9_loadsOutOfReach_29 : decode cX9_loadsOutOfReach 29 = .ok (.aload_n 0, 1) := by decide +kernel
theorem dX9_loadsOutOfReach_30 : decode cX9_loadsOutOfReach 30 = .ok (.iload_n 2, 1) := by decide +kernel
theorem dX9_loadsOutOfReach_31 : decode cX9_loadsOutOfReach 31 = .ok (.iconst 0, 1) := by decide +kernel
theorem dX9_loadsOutOfReach_32 : decode cX9_loadsOutOfReach 32 = .ok (.invokevirtual 214, 3) := by decide +kernel
theorem dX9_loadsOutOfReach_35 : decode cX9_loadsOutOfReach 35 = .ok (.bipush 60, 2) := by decide +kernel
theorem dX9_loadsOutOfReach_37 : decode cX9_loadsOutOfReach 37 = .ok (.if_icmp .le 7, 3) := by decide +kernel
theorem dX9_loadsOutOfReach_40 : decode cX9_loadsOutOfReach 40 = .ok (.iconst 1, 1) := by decide +kernel
theorem dX9_loadsOutOfReach_41 : decode cX9_loadsOutOfReach 41 = .ok (.goto 4, 3) := by decide +kernel
theorem dX9_loadsOutOfReach_44 : decode cX9_loadsOutOfReach 44 = .ok (.iconst 0, 1) := by decide +kernel
theorem dX9_loadsOutOfReach_45 : decode cX9_loadsOutOfReach 45 = .ok (.iadd, 1) := by decide +kernel
theorem dX9_loadsOutOfReach_46 : decode cX9_loadsOutOfReach 46 = .ok (.istore_n 1, 1) := by decide +kernel
theorem dX9_loadsOutOfReach_47 : decode cX9_loadsOutOfReach 47 = .ok (.iinc 2 1, 3) := by decide +kernel
theorem dX9_loadsOutOfReach_50 : decode cX9_loadsOutOfReach 50 = .ok (.goto (-42), 3) := by decide +kernel
theorem dX9_loadsOutOfReach_53 : decode cX9_loadsOutOfReach 53 = .ok (.aload_n 0, 1) := by decide +kernel
theorem dX9_loadsOutOfReach_54 : decode cX9_loadsOutOfReach 54 = .ok (.iload_n 1, 1) := by decide +kernel
theorem dX9_loadsOutOfReach_55 : decode cX9_loadsOutOfReach 55 = .ok (.invokevirtual 90, 3) := by decide +kernel
theorem dX9_loadsOutOfReach_58 : decode cX9_loadsOutOfReach 58 = .ok (.ireturn, 1) := by decide +kernel
theorem dX9_slack_0 : decode cX9_slack 0 = .ok (.aload_n 0, 1) := by decide +kernel
theorem dX9_slack_1 : decode cX9_slack 1 = .ok (.iload_n 1, 1) := by decide +kernel
theorem dX9_slack_2 : decode cX9_slack 2 = .ok (.invokevirtual 208, 3) := by decide +kernel
theorem dX9_slack_5 : decode cX9_slack 5 = .ok (.istore_n 2, 1) := by decide +kernel
theorem dX9_slack_6 : decode cX9_slack 6 = .ok (.iload_n 2, 1) := by decide +kernel
theorem dX9_slack_7 : decode cX9_slack 7 = .ok (.ifCond .eq 9, 3) := by decide +kernel
theorem dX9_slack_10 : decode cX9_slack 10 = .ok (.aload_n 0, 1) := by decide +kernel
theorem dX9_slack_11 : decode cX9_slack 11 = .ok (.iload_n 2, 1) := by decide +kernel
theorem dX9_slack_12 : decode cX9_slack 12 = .ok (.invokevirtual 93, 3) := by decide +kernel
theorem dX9_slack_15 : decode cX9_slack 15 = .ok (.ireturn, 1) := by decide +kernel
theorem dX9_slack_16 : decode cX9_slack 16 = .ok (.aload_n 0, 1) := by decide +kernel
theorem dX9_slack_17 : decode cX9_slack 17 = .ok (.invokevirtual 143, 3) := by decide +kernel
theorem dX9_slack_20 : decode cX9_slack 20 = .ok (.iconst 0, 1) := by decide +kernel
theorem dX9_slack_21 : decode cX9_slack 21 = .ok (.istore_n 3, 1) := by decide +kernel
theorem dX9_slack_22 : decode cX9_slack 22 = .ok (.iload_n 3, 1) := by decide +kernel
theorem dX9_slack_23 : decode cX9_slack 23 = .ok (.bipush 50, 2) := by decide +kernel
theorem dX9_slack_25 : decode cX9_slack 25 = .ok (.if_icmp .ge 22, 3) := by decide +kernel
theorem dX9_slack_28 : decode cX9_slack 28 = .ok (.aload_n 0, 1) := by decide +kernel
theorem dX9_slack_29 : decode cX9_slack 29 = .ok (.iload_n 1, 1) := by decide +kernel
theorem dX9_slack_30 : decode cX9_slack 30 = .ok (.iload_n 3, 1) := by decide +kernel
theorem dX9_slack_31 : decode cX9_slack 31 = .ok (.iconst 1, 1) := by decide +kernel
theorem dX9_slack_32 : decode cX9_slack 32 = .ok (.iadd, 1) := by decide +kernel
theorem dX9_slack_33 : decode cX9_slack 33 = .ok (.invokevirtual 214, 3) := by decide +kernel
theorem dX9_slack_36 : decode cX9_slack 36 = .ok (.bipush 60, 2) := by decide +kernel
theorem dX9_slack_38 : decode cX9_slack 38 = .ok (.if_icmp .gt 9, 3) := by decide +kernel
theorem dX9_slack_41 : decode cX9_slack 41 = .ok (.iinc 3 1, 3) := by decide +kernel
theorem dX9_slack_44 : decode cX9_slack 44 = .ok (.goto (-22), 3) := by decide +kernel
theorem dX9_slack_47 : decode cX9_slack 47 = .ok (.aload_n 0, 1) := by decide +kernel
theorem dX9_slack_48 : decode cX9_slack 48 = .ok (.iload_n 3, 1) := by decide +kernel
theorem dX9_slack_49 : decode cX9_slack 49 = .ok (.invokevirtual 90, 3) := by decide +kernel
theorem dX9_slack_52 : decode cX9_slack 52 = .ok (.ireturn, 1) := by decide +kernel
theorem dX9_undo_0 : decode cX9_undo 0 = .ok (.aload_n 0, 1) := by decide +kernel
theorem dX9_undo_1 : decode cX9_undo 1 = .ok (.getfield 57, 3) := by decide +kernel
theorem dX9_undo_4 : decode cX9_undo 4 = .ok (.ifCond .ne 9, 3) := by decide +kernel
theorem dX9_undo_7 : decode cX9_undo 7 = .ok (.aload_n 0, 1) := by decide +kernel
theorem dX9_undo_8 : decode cX9_undo 8 = .ok (.iconst 1, 1) := by decide +kernel
theorem dX9_undo_9 : decode cX9_undo 9 = .ok (.invokevirtual 93, 3) := by decide +kernel
theorem dX9_undo_12 : decode cX9_undo 12 = .ok (.ireturn, 1) := by decide +kernel
theorem dX9_undo_13 : decode cX9_undo 13 = .ok (.aload_n 0, 1) := by decide +kernel
theorem dX9_undo_14 : decode cX9_undo 14 = .ok (.dup, 1) := by decide +kernel
theorem dX9_undo_15 : decode cX9_undo 15 = .ok (.getfield 57, 3) := by decide +kernel
theorem dX9_undo_18 : decode cX9_undo 18 = .ok (.iconst 1, 1) := by decide +kernel
theorem dX9_undo_19 : decode cX9_undo 19 = .ok (.isub, 1) := by decide +kernel
theorem dX9_undo_20 : decode cX9_undo 20 = .ok (.putfield 57, 3) := by decide +kernel
theorem dX9_undo_23 : decode cX9_undo 23 = .ok (.iconst 0, 1) := by decide +kernel
theorem dX9_undo_24 : decode cX9_undo 24 = .ok (.istore_n 1, 1) := by decide +kernel
theorem dX9_undo_25 : decode cX9_undo 25 = .ok (.iload_n 1, 1) := by decide +kernel
theorem dX9_undo_26 : decode cX9_undo 26 = .ok (.bipush 121, 2) := by decide +kernel
theorem dX9_undo_28 : decode cX9_undo 28 = .ok (.if_icmp .ge 29, 3) := by decide +kernel
theorem dX9_undo_31 : decode cX9_undo 31 = .ok (.aload_n 0, 1) := by decide +kernel
theorem dX9_undo_32 : decode cX9_undo 32 = .ok (.getfield 7, 3) := by decide +kernel
theorem dX9_undo_35 : decode cX9_undo 35 = .ok (.iload_n 1, 1) := by decide +kernel
theorem dX9_undo_36 : decode cX9_undo 36 = .ok (.aload_n 0, 1) := by decide +kernel
theorem dX9_undo_37 : decode cX9_undo 37 = .ok (.getfield 13, 3) := by decide +kernel
theorem dX9_undo_40 : decode cX9_undo 40 = .ok (.bipush 121, 2) := by decide +kernel
theorem dX9_undo_42 : decode cX9_undo 42 = .ok (.aload_n 0, 1) := by decide +kernel
theorem dX9_undo_43 : decode cX9_undo 43 = .ok (.getfield 57, 3) := by decide +kernel
theorem dX9_undo_46 : decode cX9_undo 46 = .ok (.imul, 1) := by decide +kernel
theorem dX9_undo_47 : decode cX9_undo 47 = .ok (.iload_n 1, 1) := by decide +kernel
theorem dX9_undo_48 : decode cX9_undo 48 = .ok (.iadd, 1) := by decide +kernel
theorem dX9_undo_49 : decode cX9_undo 49 = .ok (.iaload, 1) := by decide +kernel
theorem dX9_undo_50 : decode cX9_undo 50 = .ok (.iastore, 1) := by decide +kernel
theorem dX9_undo_51 : decode cX9_undo 51 = .ok (.iinc 1 1, 3) := by decide +kernel
theorem dX9_undo_54 : decode cX9_undo 54 = .ok (.goto (-29), 3) := by decide +kernel
theorem dX9_undo_57 : decode cX9_undo 57 = .ok (.aload_n 0, 1) := by decide +kernel
theorem dX9_undo_58 : decode cX9_undo 58 = .ok (.aload_n 0, 1) := by decide +kernel
theorem dX9_undo_59 : decode cX9_undo 59 = .ok (.getfield 57, 3) := by decide +kernel
theorem dX9_undo_62 : decode cX9_undo 62 = .ok (.invokevirtual 90, 3) := by decide +kernel
theorem dX9_undo_65 : decode cX9_undo 65 = .ok (.ireturn, 1) := by decide +kernel
theorem dX9_save_0 : decode cX9_save 0 = .ok (.aload_n 0, 1) := by decide +kernel
theorem dX9_save_1 : decode cX9_save 1 = .ok (.iconst 1, 1) := by decide +kernel
theorem dX9_save_2 : decode cX9_save 2 = .ok (.putfield 217, 3) := by decide +kernel
theorem dX9_save_5 : decode cX9_save 5 = .ok (.iconst 0, 1) := by decide +kernel
theorem dX9_save_6 : decode cX9_save 6 = .ok (.istore_n 1, 1) := by decide +kernel
theorem dX9_save_7 : decode cX9_save 7 = .ok (.iload_n 1, 1) := by decide +kernel
theorem dX9_save_8 : decode cX9_save 8 = .ok (.bipush 121, 2) := by decide +kernel
theorem dX9_save_10 : decode cX9_save 10 = .ok (.if_icmp .ge 21, 3) := by decide +kernel
theorem dX9_save_13 : decode cX9_save 13 = .ok (.aload_n 0, 1) := by decide +kernel
theorem dX9_save_14 : decode cX9_save 14 = .ok (.getfield 16, 3) := by decide +kernel
theorem dX9_save_17 : decode cX9_save 17 = .ok (.iload_n 1, 1) := by decide +kernel
theorem dX9_save_18 : decode cX9_save 18 = .ok (.aload_n 0, 1) := by decide +kernel
theorem dX9_save_19 : decode cX9_save 19 = .ok (.getfield 7, 3) := by decide +kernel
theorem dX9_save_22 : decode cX9_save 22 = .ok (.iload_n 1, 1) := by decide +kernel
theorem dX9_save_23 : decode cX9_save 23 = .ok (.iaload, 1) := by decide +kernel
theorem dX9_save_24 : decode cX9_save 24 = .ok (.iastore, 1) := by decide +kernel
theorem dX9_save_25 : decode cX9_save 25 = .ok (.iinc 1 1, 3) := by decide +kernel
theorem dX9_save_28 : decode cX9_save 28 = .ok (.goto (-21), 3) := by decide +kernel
theorem dX9_save_31 : decode cX9_save 31 = .ok (.aload_n 0, 1) := by decide +kernel
theorem dX9_save_32 : decode cX9_save 32 = .ok (.aload_n 0, 1) := by decide +kernel
theorem dX9_save_33 : decode cX9_save 33 = .ok (.getfield 7, 3) := by decide +kernel
theorem dX9_save_36 : decode cX9_save 36 = .ok (.iconst 0, 1) := by decide +kernel
theorem dX9_save_37 : decode cX9_save 37 = .ok (.iaload, 1) := by decide +kernel
theorem dX9_save_38 : decode cX9_save 38 = .ok (.invokevirtual 90, 3) := by decide +kernel
theorem dX9_save_41 : decode cX9_save 41 = .ok (.ireturn, 1) := by decide +kernel
theorem dX9_restore_0 : decode cX9_restore 0 = .ok (.aload_n 0, 1) := by decide +kernel
theorem dX9_restore_1 : decode cX9_restore 1 = .ok (.getfield 217, 3) := by decide +kernel
theorem dX9_restore_4 : decode cX9_restore 4 = .ok (.ifCond .ne 9, 3) := by decide +kernel
theorem dX9_restore_7 : decode cX9_restore 7 = .ok (.aload_n 0, 1) := by decide +kernel
theorem dX9_restore_8 : decode cX9_restore 8 = .ok (.iconst 1, 1) := by decide +kernel
theorem dX9_restore_9 : decode cX9_restore 9 = .ok (.invokevirtual 93, 3) := by decide +kernel
theorem dX9_restore_12 : decode cX9_restore 12 = .ok (.ireturn, 1) := by decide +kernel
theorem dX9_restore_13 : decode cX9_restore 13 = .ok (.iconst 0, 1) := by decide +kernel
theorem dX9_restore_14 : decode cX9_restore 14 = .ok (.istore_n 1, 1) := by decide +kernel
theorem dX9_restore_15 : decode cX9_restore 15 = .ok (.iload_n 1, 1) := by decide +kernel
theorem dX9_restore_16 : decode cX9_restore 16 = .ok (.bipush 121, 2) := by decide +kernel
theorem dX9_restore_18 : decode cX9_restore 18 = .ok (.if_icmp .ge 21, 3) := by decide +kernel
theorem dX9_restore_21 : decode cX9_restore 21 = .ok (.aload_n 0, 1) := by decide +kernel
theorem dX9_restore_22 : decode cX9_restore 22 = .ok (.getfield 7, 3) := by decide +kernel
theorem dX9_restore_25 : decode cX9_restore 25 = .ok (.iload_n 1, 1) := by decide +kernel
theorem dX9_restore_26 : decode cX9_restore 26 = .ok (.aload_n 0, 1) := by decide +kernel
theorem dX9_restore_27 : decode cX9_restore 27 = .ok (.getfield 16, 3) := by decide +kernel
theorem dX9_restore_30 : decode cX9_restore 30 = .ok (.iload_n 1, 1) := by decide +kernel
theorem dX9_restore_31 : decode cX9_restore 31 = .ok (.iaload, 1) := by decide +kernel
theorem dX9_restore_32 : decode cX9_restore 32 = .ok (.iastore, 1) := by decide +kernel
theorem dX9_restore_33 : decode cX9_restore 33 = .ok (.iinc 1 1, 3) := by decide +kernel
theorem dX9_restore_36 : decode cX9_restore 36 = .ok (.goto (-21), 3) := by decide +kernel
theorem dX9_restore_39 : decode cX9_restore 39 = .ok (.aload_n 0, 1) := by decide +kernel
theorem dX9_restore_40 : decode cX9_restore 40 = .ok (.iconst 0, 1) := by decide +kernel
theorem dX9_restore_41 : decode cX9_restore 41 = .ok (.putfield 57, 3) := by decide +kernel
theorem dX9_restore_44 : decode cX9_restore 44 = .ok (.aload_n 0, 1) := by decide +kernel
theorem dX9_restore_45 : decode cX9_restore 45 = .ok (.aload_n 0, 1) := by decide +kernel
theorem dX9_restore_46 : decode cX9_restore 46 = .ok (.getfield 7, 3) := by decide +kernel
theorem dX9_restore_49 : decode cX9_restore 49 = .ok (.iconst 0, 1) := by decide +kernel
theorem dX9_restore_50 : decode cX9_restore 50 = .ok (.iaload, 1) := by decide +kernel
theorem dX9_restore_51 : decode cX9_restore 51 = .ok (.invokevirtual 90, 3) := by decide +kernel
theorem dX9_restore_54 : decode cX9_restore 54 = .ok (.ireturn, 1) := by decide +kernel
end
section
/-! The integer machine: words for the state of class and reference in one world of 81 cells -/
section BASE
abbrev V : Type := Int ⊕ Nat
abbrev Sg : Type := Nat → Int → Int
/-- D, addresses of the cells, classes of arrays, the cells that may change, String constants, their arrays -/
abbrev Gm : Type := va_G × (Nat → Nat) × (Nat → ClassId) × (Nat → Prop) × (Nat → Nat) × (Nat → Nat)
def ii (z : Int) : Int32 := Int32.ofInt z
def rg (z : Int) : Prop := -2147483648 ≤ z ∧ z < 2147483648
theorem ii_toInt {z : Int} (h : rg z) : (ii z).toInt = z := Int32.toInt_ofInt_of_le h.1 h.2
theorem ii_of (x : Int32) : ii x.toInt = x := Int32.ofInt_toInt x
theorem rg_of (x : Int32) : rg x.toInt := ⟨Int32.le_toInt x, Int32.toInt_lt x⟩
theorem ii_add (a b : Int) : ii a + ii b = ii (a + b) := (Int32.ofInt_add a b).symm
theorem ii_sub (a b : Int) : ii a - ii b = ii (a - b) := (Int32.ofInt_sub a b).symm
theorem ii_mul (a b : Int) : ii a * ii b = ii (a * b) := (Int32.ofInt_mul a b).symm
theorem ii_neg (a : Int) : - ii a = ii (-a) := (Int32.ofInt_neg a).symm
theorem ii_le {a b : Int} (ha : rg a) (hb : rg b) : ii a ≤ ii b ↔ a ≤ b := by rw [Int32.le_iff_toInt_le, ii_toInt ha, ii_toInt hb]
theorem ii_lt {a b : Int} (ha : rg a) (hb : rg b) : ii a < ii b ↔ a < b := by rw [Int32.lt_iff_toInt_lt, ii_toInt ha, ii_toInt hb]
theorem ii_eq {a b : Int} (ha : rg a) (hb : rg b) : ii a = ii b ↔ a = b := by rw [← Int32.toInt_inj, ii_toInt ha, ii_toInt hb]
theorem ii_inj {a b : Int} (ha : rg a) (hb : rg b) (h : ii a = ii b) : a = b := (ii_eq ha hb).mp h
theorem ii_0 : ii 0 = 0 := rfl
theorem ii_clamp {z : Int} (h : rg z) : (ii z).toNatClampNeg = z.toNat := by
  show (ii z).toInt.toNat = z.toNat
  rw [ii_toInt h]
theorem ii_div {a b : Int} (ha : rg a) (hb : rg b) (h0 : 0 ≤ a) (h1 : 0 < b) : ii a / ii b = ii (a / b) := by
  have h2 : ii b ≠ -1 := by
    intro h
    have h3 := congrArg Int32.toInt h
    rw [ii_toInt hb] at h3
    have h4 : ((-1 : Int32)).toInt = -1 := rfl
    rw [h4] at h3
    omega
  apply Int32.toInt_inj.mp
  rw [Int32.toInt_div_of_ne_right _ _ h2, ii_toInt ha, ii_toInt hb, Int.tdiv_eq_ediv_of_nonneg h0]
  have h5 : 0 ≤ a / b := Int.ediv_nonneg h0 (Int.le_of_lt h1)
  have h6 : a / b ≤ a := Int.ediv_le_self b h0
  rw [ii_toInt ⟨by have := hb.1; omega, by have := ha.2; omega⟩]
theorem ii_rem {a b : Int} (ha : rg a) (hb : rg b) (h0 : 0 ≤ a) (h1 : 0 < b) : ii a - ii a / ii b * ii b = ii (a % b) := by
  rw [ii_div ha hb h0 h1, ii_mul, ii_sub, Int.emod_def, Int.mul_comm]
theorem vp_in_ii {z : Int} {n : Nat} (h : rg z) (h0 : 0 ≤ z) (h1 : z < n) : vp_in (ii z) n := by
  intro hh
  rcases hh with h2 | h2
  · rw [show (0 : Int32) = ii 0 from rfl, ii_lt h ⟨by decide, by decide⟩] at h2
    omega
  · rw [ii_clamp h] at h2
    omega
def upd2 (σ : Sg) (k : Nat) (z v : Int) : Sg := fun k' z' => if k' = k ∧ z' = z then v else σ k' z'
theorem upd2_at (σ : Sg) (k : Nat) (z v : Int) : upd2 σ k z v k z = v := if_pos ⟨rfl, rfl⟩
theorem upd2_ne {σ : Sg} {k k' : Nat} {z z' v : Int} (h : ¬ (k' = k ∧ z' = z)) : upd2 σ k z v k' z' = σ k' z' := if_neg h
/-- the cells' shapes: an array (its type's number, its length) or an object (its class's number, its fields: none an int, some a cell) -/
def shp (k : Nat) : (Nat × Nat) ⊕ (Nat × List (Option Nat)) :=
  if k < 48 then (if k % 4 = 0 then .inr (8, [some (k + 1), some (k + 2), some (k + 3), none]) else .inl (0, 40)) else
  match k with
  | 48 => .inr (4, [some 49, none, none])
  | 49 => .inl (5, 10)
  | 50 => .inr (5, [some 51, none, none, none, none])
  | 51 => .inl (1, 12)
  | 52 => .inr (7, [some 0, some 53, some 54, some 55, some 56, some 57, some 58, some 59, none])
  | 53 => .inl (0, 10)
  | 54 => .inl (0, 40)
  | 55 => .inl (0, 40)
  | 56 => .inl (0, 41)
  | 57 => .inl (0, 41)
  | 58 => .inl (0, 100)
  | 59 => .inl (0, 100)
  | 60 => .inr (6, [some 0, some 52, some 61])
  | 61 => .inl (0, 41)
  | 62 => .inr (9, [some 0, some 52, some 60])
  | 63 => .inr (3, [some 0, some 52, some 60, some 64, some 65, some 66, none, none])
  | 64 => .inl (0, 41)
  | 65 => .inl (0, 40)
  | 66 => .inl (0, 40)
  | 67 => .inr (2, [some 0, some 60, some 68, none, none])
  | 68 => .inl (2, 2048)
  | 69 => .inr (10, [some 0, some 4, some 48, some 50, some 52, some 60, some 62, some 63, some 67, none, none])
  | 70 => .inr (11, [none, some 71, some 72, none, some 73, none, some 74, none, none, some 75, some 76, none, some 77, none, none, some 78, some 79, some 80, none, none, none])
  | 71 => .inl (0, 121)
  | 72 => .inl (0, 1210)
  | 73 => .inl (0, 121)
  | 74 => .inl (1, 12)
  | 75 => .inl (0, 41)
  | 76 => .inl (0, 40)
  | 77 => .inl (0, 48)
  | 78 => .inl (2, 3000)
  | 79 => .inl (2, 3000)
  | _ => .inl (0, 40)
theorem shp_o {j : Nat} (h : j < 12) : shp (4 * j) = .inr (8, [some (4 * j + 1), some (4 * j + 2), some (4 * j + 3), none]) := by
  unfold shp
  rw [if_pos (by omega), if_pos (by omega)]
theorem shp_a1 {j : Nat} (h : j < 12) : shp (4 * j + 1) = .inl (0, 40) := by
  unfold shp
  rw [if_pos (by omega), if_neg (by omega)]
theorem shp_a2 {j : Nat} (h : j < 12) : shp (4 * j + 2) = .inl (0, 40) := by
  unfold shp
  rw [if_pos (by omega), if_neg (by omega)]
theorem shp_a3 {j : Nat} (h : j < 12) : shp (4 * j + 3) = .inl (0, 40) := by
  unfold shp
  rw [if_pos (by omega), if_neg (by omega)]
def adr (g : Gm) (k : Nat) : Nat := if k < 1000 then g.2.1 k else g.2.2.2.2.1 (k - 1000)
abbrev gA (g : Gm) : Nat → Prop := g.2.2.2.1
def vv (g : Gm) : V → Value
  | .inl z => .int (ii z)
  | .inr k => .ref (adr g k)
def encF (g : Gm) (σ : Sg) (k : Nat) : Nat → List (Option Nat) → List Value
  | _, [] => []
  | j, none :: r => .int (ii (σ k (j : Int))) :: encF g σ k (j + 1) r
  | j, some q :: r => .ref (adr g q) :: encF g σ k (j + 1) r
def enc (g : Gm) (σ : Sg) (k : Nat) : va_E := match shp k with
  | .inl (t, n) => .inl (g.2.2.1 t, n, if t = 5 then .inr (.inr (.inr (.inr (fun i => some (adr g (8 + 4 * i)))))) else .inl (fun j => ii (σ k (j : Int))))
  | .inr (ci, fl) => .inr (ci, encF g σ k 0 fl)
def wl (g : Gm) (σ : Sg) : va_W := (List.range 81).map (fun k => (adr g k, enc g σ k))
theorem wl_at {g : Gm} {σ : Sg} {k : Nat} (hk : k < 81) : (wl g σ)[k]? = some (adr g k, enc g σ k) := by
  simp [wl, hk]
theorem encF_at {g : Gm} {σ : Sg} {k : Nat} : ∀ (fl : List (Option Nat)) (j i : Nat), (encF g σ k j fl)[i]? = (fl[i]?).map (fun o => match o with | none => Value.int (ii (σ k ((j + i : Nat) : Int))) | some q => .ref (adr g q))
  | [], j, i => by simp [encF]
  | none :: r, j, 0 => by simp [encF]
  | some q :: r, j, 0 => by simp [encF]
  | none :: r, j, i + 1 => by
    simp only [encF, List.getElem?_cons_succ]
    rw [encF_at r (j + 1) i, show j + 1 + i = j + (i + 1) by omega]
  | some q :: r, j, i + 1 => by
    simp only [encF, List.getElem?_cons_succ]
    rw [encF_at r (j + 1) i, show j + 1 + i = j + (i + 1) by omega]
theorem encF_len {g : Gm} {σ : Sg} {k : Nat} : ∀ (fl : List (Option Nat)) (j : Nat), (encF g σ k j fl).length = fl.length
  | [], j => rfl
  | none :: r, j => by simp [encF, encF_len r]
  | some q :: r, j => by simp [encF, encF_len r]
theorem enc_o {g : Gm} {σ : Sg} {k ci : Nat} {fl : List (Option Nat)} (h : shp k = .inr (ci, fl)) : enc g σ k = .inr (ci, encF g σ k 0 fl) := by
  unfold enc; rw [h]
theorem enc_a {g : Gm} {σ : Sg} {k t n : Nat} (h : shp k = .inl (t, n)) (ht : t ≠ 5) : enc g σ k = .inl (g.2.2.1 t, n, .inl (fun j => ii (σ k (j : Int)))) := by
  unfold enc; rw [h]; simp [ht]
theorem enc_r {g : Gm} {σ : Sg} {k n : Nat} (h : shp k = .inl (5, n)) : enc g σ k = .inl (g.2.2.1 5, n, .inr (.inr (.inr (.inr (fun i => some (adr g (8 + 4 * i))))))) := by
  unfold enc; rw [h]; simp
theorem enc_other {g : Gm} {σ τ : Sg} {k : Nat} (h : τ k = σ k) : enc g τ k = enc g σ k := by
  have hF : ∀ (fl : List (Option Nat)) (j : Nat), encF g τ k j fl = encF g σ k j fl := by
    intro fl
    induction fl with
    | nil => intro j; rfl
    | cons a r ih =>
      intro j
      cases a with
      | none => simp only [encF, ih, h]
      | some q => simp only [encF, ih]
  unfold enc
  cases shp k with
  | inl a => simp only [h]
  | inr o => simp only [hF]
theorem wl_set {g : Gm} {σ τ : Sg} {k : Nat} {e : va_E} (hk : k < 81) (he : enc g τ k = e) (ho : ∀ j, j ≠ k → τ j = σ j) : (wl g σ).set k (adr g k, e) = wl g τ := by
  apply List.ext_getElem?
  intro i
  rw [List.getElem?_set]
  by_cases hik : k = i
  · subst hik
    rw [if_pos rfl, wl_at hk, he]
    simp [wl, hk]
  · rw [if_neg hik]
    by_cases hi : i < 81
    · rw [wl_at hi, wl_at hi, enc_other (ho i (fun e => hik e.symm))]
    · simp [wl, hi]
theorem upd2_other {σ : Sg} {k : Nat} {z v : Int} : ∀ j, j ≠ k → upd2 σ k z v j = σ j := fun j h => by
  funext z'
  exact upd2_ne (fun h2 => h h2.1)
theorem enc_upd_a {g : Gm} {σ : Sg} {k t n : Nat} {z v : Int} (h : shp k = .inl (t, n)) (ht : t ≠ 5) (h0 : 0 ≤ z) (hz : rg z) : enc g (upd2 σ k z v) k = .inl (g.2.2.1 t, n, .inl (upd (fun j => ii (σ k (j : Int))) (ii z).toNatClampNeg (ii v))) := by
  rw [enc_a h ht, ii_clamp hz]
  congr 4
  funext j
  unfold upd upd2
  by_cases hj : j = z.toNat
  · subst hj
    simp only [true_and]
    rw [if_pos (by omega), if_pos rfl]
  · rw [if_neg (by omega), if_neg hj]
theorem encF_set {g : Gm} {σ : Sg} {k : Nat} {v : Int} : ∀ (fl : List (Option Nat)) (j i : Nat), fl[i]? = some none → (encF g σ k j fl).set i (.int (ii v)) = encF g (upd2 σ k ((j + i : Nat) : Int) v) k j fl := by
  intro fl j i h
  apply List.ext_getElem?
  intro q
  rw [List.getElem?_set, encF_at, encF_at, encF_len]
  by_cases hq : i = q
  · subst hq
    have hl : i < fl.length := (List.getElem?_eq_some_iff.mp h).1
    rw [if_pos rfl, if_pos hl, h]
    simp [upd2]
  · rw [if_neg hq]
    cases hc : fl[q]? with
    | none => rfl
    | some o =>
      cases o with
      | none =>
        simp only [Option.map_some]
        rw [upd2_ne (by omega)]
      | some x => rfl
theorem enc_upd_o {g : Gm} {σ : Sg} {k ci i : Nat} {fl : List (Option Nat)} {v : Int} (h : shp k = .inr (ci, fl)) (hi : fl[i]? = some none) : enc g (upd2 σ k (i : Int) v) k = .inr (ci, (encF g σ k 0 fl).set i (.int (ii v))) := by
  rw [enc_o h, encF_set fl 0 i hi, Nat.zero_add]
end BASE
end
