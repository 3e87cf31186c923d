section
-- ===== PART A: goes FIRST, ahead of the names: the tables' words, and 'selects' of the private methods out of them =====
/-- a private method of a class that the tables say can be made, by its rows of tables_1 -/
def lw_okq (q : MethodName × Nat) : Prop := (q.1.cls ≠ "java/lang/invoke/MethodHandle" ∧ q.1.cls ≠ "java/lang/invoke/VarHandle") ∧ Cond.instantiable q.1.cls q.2 ∈ tables_1 ∧ Cond.privateMethod q.1 ∈ tables_1 ∧ Cond.instanceMethod q.1 ∈ tables_1
theorem lw_p0 : lw_okq (⟨"java/lang/Throwable", "fillInStackTrace", "(I)Ljava/lang/Throwable;"⟩, 6) := ⟨⟨by decide +kernel, by decide +kernel⟩, List.mem_of_getElem? (i := 416) (by decide +kernel), List.mem_of_getElem? (i := 414) (by decide +kernel), List.mem_of_getElem? (i := 415) (by decide +kernel)⟩
theorem lw_p1 : lw_okq (⟨"BillOfMaterials", "checkPart", "(I)V"⟩, 10) := ⟨⟨by decide +kernel, by decide +kernel⟩, List.mem_of_getElem? (i := 26) (by decide +kernel), List.mem_of_getElem? (i := 483) (by decide +kernel), List.mem_of_getElem? (i := 484) (by decide +kernel)⟩
theorem lw_p2 : lw_okq (⟨"BillOfMaterials", "checkNoCircle", "(II)V"⟩, 10) := ⟨⟨by decide +kernel, by decide +kernel⟩, List.mem_of_getElem? (i := 26) (by decide +kernel), List.mem_of_getElem? (i := 544) (by decide +kernel), List.mem_of_getElem? (i := 545) (by decide +kernel)⟩
theorem lw_p3 : lw_okq (⟨"BillOfMaterials", "checkRoomForLine", "(II)V"⟩, 10) := ⟨⟨by decide +kernel, by decide +kernel⟩, List.mem_of_getElem? (i := 26) (by decide +kernel), List.mem_of_getElem? (i := 568) (by decide +kernel), List.mem_of_getElem? (i := 569) (by decide +kernel)⟩
theorem lw_p4 : lw_okq (⟨"BillOfMaterials", "checkUnique", "(IIIIII)V"⟩, 10) := ⟨⟨by decide +kernel, by decide +kernel⟩, List.mem_of_getElem? (i := 26) (by decide +kernel), List.mem_of_getElem? (i := 579) (by decide +kernel), List.mem_of_getElem? (i := 580) (by decide +kernel)⟩
theorem lw_p5 : lw_okq (⟨"BillOfMaterials", "checkLine", "(I)V"⟩, 10) := ⟨⟨by decide +kernel, by decide +kernel⟩, List.mem_of_getElem? (i := 26) (by decide +kernel), List.mem_of_getElem? (i := 621) (by decide +kernel), List.mem_of_getElem? (i := 622) (by decide +kernel)⟩
theorem lw_p6 : lw_okq (⟨"BillOfMaterials", "checkCut", "(II)V"⟩, 10) := ⟨⟨by decide +kernel, by decide +kernel⟩, List.mem_of_getElem? (i := 26) (by decide +kernel), List.mem_of_getElem? (i := 626) (by decide +kernel), List.mem_of_getElem? (i := 627) (by decide +kernel)⟩
theorem lw_p7 : lw_okq (⟨"BillOfMaterials", "makeDirectList", "(II)V"⟩, 10) := ⟨⟨by decide +kernel, by decide +kernel⟩, List.mem_of_getElem? (i := 26) (by decide +kernel), List.mem_of_getElem? (i := 698) (by decide +kernel), List.mem_of_getElem? (i := 699) (by decide +kernel)⟩
theorem lw_p8 : lw_okq (⟨"BillOfMaterials$DirectList", "grow", "()V"⟩, 3) := ⟨⟨by decide +kernel, by decide +kernel⟩, List.mem_of_getElem? (i := 222) (by decide +kernel), List.mem_of_getElem? (i := 725) (by decide +kernel), List.mem_of_getElem? (i := 726) (by decide +kernel)⟩
theorem lw_p9 : lw_okq (⟨"BillOfMaterials", "checkEntry", "(I)V"⟩, 10) := ⟨⟨by decide +kernel, by decide +kernel⟩, List.mem_of_getElem? (i := 26) (by decide +kernel), List.mem_of_getElem? (i := 740) (by decide +kernel), List.mem_of_getElem? (i := 741) (by decide +kernel)⟩
theorem lw_p10 : lw_okq (⟨"BillOfMaterials$OutputLine", "makeRoom", "(I)V"⟩, 2) := ⟨⟨by decide +kernel, by decide +kernel⟩, List.mem_of_getElem? (i := 241) (by decide +kernel), List.mem_of_getElem? (i := 782) (by decide +kernel), List.mem_of_getElem? (i := 783) (by decide +kernel)⟩
theorem lw_p11 : lw_okq (⟨"BillOfMaterials$QuantityCount", "goDown", "(LBillOfMaterials$Bill;)V"⟩, 2) := ⟨⟨by decide +kernel, by decide +kernel⟩, List.mem_of_getElem? (i := 184) (by decide +kernel), List.mem_of_getElem? (i := 815) (by decide +kernel), List.mem_of_getElem? (i := 816) (by decide +kernel)⟩
theorem lw_p12 : lw_okq (⟨"BillOfMaterials$QuantityCount", "addChildrenOf", "(LBillOfMaterials$Bill;I)V"⟩, 2) := ⟨⟨by decide +kernel, by decide +kernel⟩, List.mem_of_getElem? (i := 184) (by decide +kernel), List.mem_of_getElem? (i := 819) (by decide +kernel), List.mem_of_getElem? (i := 820) (by decide +kernel)⟩
theorem lw_p13 : lw_okq (⟨"BillOfMaterials", "rolledUpCost", "(III)F"⟩, 10) := ⟨⟨by decide +kernel, by decide +kernel⟩, List.mem_of_getElem? (i := 26) (by decide +kernel), List.mem_of_getElem? (i := 859) (by decide +kernel), List.mem_of_getElem? (i := 860) (by decide +kernel)⟩
theorem lw_p14 : lw_okq (⟨"BillOfMaterials$CostRollUp", "costOf", "(LBillOfMaterials$Bill;I)F"⟩, 1) := ⟨⟨by decide +kernel, by decide +kernel⟩, List.mem_of_getElem? (i := 198) (by decide +kernel), List.mem_of_getElem? (i := 871) (by decide +kernel), List.mem_of_getElem? (i := 872) (by decide +kernel)⟩
theorem lw_p15 : lw_okq (⟨"BillOfMaterials$CostRollUp", "addedBy", "(LBillOfMaterials$Bill;I)F"⟩, 1) := ⟨⟨by decide +kernel, by decide +kernel⟩, List.mem_of_getElem? (i := 198) (by decide +kernel), List.mem_of_getElem? (i := 881) (by decide +kernel), List.mem_of_getElem? (i := 882) (by decide +kernel)⟩
def lw_privs_1 : List (MethodName × Nat) := [(⟨"java/lang/Throwable", "fillInStackTrace", "(I)Ljava/lang/Throwable;"⟩, 6), (⟨"BillOfMaterials", "checkPart", "(I)V"⟩, 10), (⟨"BillOfMaterials", "checkNoCircle", "(II)V"⟩, 10), (⟨"BillOfMaterials", "checkRoomForLine", "(II)V"⟩, 10), (⟨"BillOfMaterials", "checkUnique", "(IIIIII)V"⟩, 10), (⟨"BillOfMaterials", "checkLine", "(I)V"⟩, 10), (⟨"BillOfMaterials", "checkCut", "(II)V"⟩, 10), (⟨"BillOfMaterials", "makeDirectList", "(II)V"⟩, 10), (⟨"BillOfMaterials$DirectList", "grow", "()V"⟩, 3), (⟨"BillOfMaterials", "checkEntry", "(I)V"⟩, 10), (⟨"BillOfMaterials$OutputLine", "makeRoom", "(I)V"⟩, 2), (⟨"BillOfMaterials$QuantityCount", "goDown", "(LBillOfMaterials$Bill;)V"⟩, 2), (⟨"BillOfMaterials$QuantityCount", "addChildrenOf", "(LBillOfMaterials$Bill;I)V"⟩, 2), (⟨"BillOfMaterials", "rolledUpCost", "(III)F"⟩, 10), (⟨"BillOfMaterials$CostRollUp", "costOf", "(LBillOfMaterials$Bill;I)F"⟩, 1), (⟨"BillOfMaterials$CostRollUp", "addedBy", "(LBillOfMaterials$Bill;I)F"⟩, 1)]
theorem lw_r1 : ∀ q ∈ lw_privs_1, lw_okq q := List.forall_mem_cons.mpr ⟨lw_p0, List.forall_mem_cons.mpr ⟨lw_p1, List.forall_mem_cons.mpr ⟨lw_p2, List.forall_mem_cons.mpr ⟨lw_p3, List.forall_mem_cons.mpr ⟨lw_p4, List.forall_mem_cons.mpr ⟨lw_p5, List.forall_mem_cons.mpr ⟨lw_p6, List.forall_mem_cons.mpr ⟨lw_p7, List.forall_mem_cons.mpr ⟨lw_p8, List.forall_mem_cons.mpr ⟨lw_p9, List.forall_mem_cons.mpr ⟨lw_p10, List.forall_mem_cons.mpr ⟨lw_p11, List.forall_mem_cons.mpr ⟨lw_p12, List.forall_mem_cons.mpr ⟨lw_p13, List.forall_mem_cons.mpr ⟨lw_p14, List.forall_mem_cons.mpr ⟨lw_p15, fun _ h => absurd h List.not_mem_nil⟩⟩⟩⟩⟩⟩⟩⟩⟩⟩⟩⟩⟩⟩⟩⟩
theorem lw_p16 : lw_okq (⟨"BillOfMaterials", "rolledUpWeight", "(II)D"⟩, 10) := ⟨⟨by decide +kernel, by decide +kernel⟩, List.mem_of_getElem? (i := 26) (by decide +kernel), List.mem_of_getElem? (i := 940) (by decide +kernel), List.mem_of_getElem? (i := 941) (by decide +kernel)⟩
theorem lw_p17 : lw_okq (⟨"BillOfMaterials$WeightRollUp", "weightOf", "(LBillOfMaterials$Bill;I)D"⟩, 1) := ⟨⟨by decide +kernel, by decide +kernel⟩, List.mem_of_getElem? (i := 210) (by decide +kernel), List.mem_of_getElem? (i := 949) (by decide +kernel), List.mem_of_getElem? (i := 950) (by decide +kernel)⟩
theorem lw_p18 : lw_okq (⟨"BillOfMaterials", "checkOrder", "(I)V"⟩, 10) := ⟨⟨by decide +kernel, by decide +kernel⟩, List.mem_of_getElem? (i := 26) (by decide +kernel), List.mem_of_getElem? (i := 1006) (by decide +kernel), List.mem_of_getElem? (i := 1007) (by decide +kernel)⟩
theorem lw_p19 : lw_okq (⟨"BillOfMaterialsModel", "fails", "(I)I"⟩, 30) := ⟨⟨by decide +kernel, by decide +kernel⟩, List.mem_of_getElem? (i := 1030) (by decide +kernel), List.mem_of_getElem? (i := 1142) (by decide +kernel), List.mem_of_getElem? (i := 1143) (by decide +kernel)⟩
theorem lw_p20 : lw_okq (⟨"BillOfMaterialsModel", "isPart", "(I)Z"⟩, 30) := ⟨⟨by decide +kernel, by decide +kernel⟩, List.mem_of_getElem? (i := 1030) (by decide +kernel), List.mem_of_getElem? (i := 1150) (by decide +kernel), List.mem_of_getElem? (i := 1151) (by decide +kernel)⟩
theorem lw_p21 : lw_okq (⟨"BillOfMaterialsModel", "adds", "(IIIIIIII)I"⟩, 30) := ⟨⟨by decide +kernel, by decide +kernel⟩, List.mem_of_getElem? (i := 1030) (by decide +kernel), List.mem_of_getElem? (i := 1174) (by decide +kernel), List.mem_of_getElem? (i := 1175) (by decide +kernel)⟩
theorem lw_p22 : lw_okq (⟨"BillOfMaterialsModel", "reaches", "(II)Z"⟩, 30) := ⟨⟨by decide +kernel, by decide +kernel⟩, List.mem_of_getElem? (i := 1030) (by decide +kernel), List.mem_of_getElem? (i := 1178) (by decide +kernel), List.mem_of_getElem? (i := 1179) (by decide +kernel)⟩
theorem lw_p23 : lw_okq (⟨"BillOfMaterialsModel", "isDeep", "(II)Z"⟩, 30) := ⟨⟨by decide +kernel, by decide +kernel⟩, List.mem_of_getElem? (i := 1030) (by decide +kernel), List.mem_of_getElem? (i := 1182) (by decide +kernel), List.mem_of_getElem? (i := 1183) (by decide +kernel)⟩
theorem lw_p24 : lw_okq (⟨"BillOfMaterialsModel", "above", "(I)I"⟩, 30) := ⟨⟨by decide +kernel, by decide +kernel⟩, List.mem_of_getElem? (i := 1030) (by decide +kernel), List.mem_of_getElem? (i := 1186) (by decide +kernel), List.mem_of_getElem? (i := 1187) (by decide +kernel)⟩
theorem lw_p25 : lw_okq (⟨"BillOfMaterialsModel", "below", "(I)I"⟩, 30) := ⟨⟨by decide +kernel, by decide +kernel⟩, List.mem_of_getElem? (i := 1030) (by decide +kernel), List.mem_of_getElem? (i := 1190) (by decide +kernel), List.mem_of_getElem? (i := 1191) (by decide +kernel)⟩
theorem lw_p26 : lw_okq (⟨"BillOfMaterialsModel", "meets", "(IIIIII)Z"⟩, 30) := ⟨⟨by decide +kernel, by decide +kernel⟩, List.mem_of_getElem? (i := 1030) (by decide +kernel), List.mem_of_getElem? (i := 1194) (by decide +kernel), List.mem_of_getElem? (i := 1195) (by decide +kernel)⟩
theorem lw_p27 : lw_okq (⟨"BillOfMaterialsModel", "puts", "(IIIIIIII)I"⟩, 30) := ⟨⟨by decide +kernel, by decide +kernel⟩, List.mem_of_getElem? (i := 1030) (by decide +kernel), List.mem_of_getElem? (i := 1198) (by decide +kernel), List.mem_of_getElem? (i := 1199) (by decide +kernel)⟩
theorem lw_p28 : lw_okq (⟨"BillOfMaterialsModel", "isLine", "(I)Z"⟩, 30) := ⟨⟨by decide +kernel, by decide +kernel⟩, List.mem_of_getElem? (i := 1030) (by decide +kernel), List.mem_of_getElem? (i := 1210) (by decide +kernel), List.mem_of_getElem? (i := 1211) (by decide +kernel)⟩
theorem lw_p29 : lw_okq (⟨"BillOfMaterialsModel", "isHeld", "(II)Z"⟩, 30) := ⟨⟨by decide +kernel, by decide +kernel⟩, List.mem_of_getElem? (i := 1030) (by decide +kernel), List.mem_of_getElem? (i := 1234) (by decide +kernel), List.mem_of_getElem? (i := 1235) (by decide +kernel)⟩
theorem lw_p30 : lw_okq (⟨"BillOfMaterialsModel", "isListed", "(II)Z"⟩, 30) := ⟨⟨by decide +kernel, by decide +kernel⟩, List.mem_of_getElem? (i := 1030) (by decide +kernel), List.mem_of_getElem? (i := 1250) (by decide +kernel), List.mem_of_getElem? (i := 1251) (by decide +kernel)⟩
theorem lw_p31 : lw_okq (⟨"BillOfMaterialsModel", "isAsked", "(II)Z"⟩, 30) := ⟨⟨by decide +kernel, by decide +kernel⟩, List.mem_of_getElem? (i := 1030) (by decide +kernel), List.mem_of_getElem? (i := 1254) (by decide +kernel), List.mem_of_getElem? (i := 1255) (by decide +kernel)⟩
def lw_privs_2 : List (MethodName × Nat) := [(⟨"BillOfMaterials", "rolledUpWeight", "(II)D"⟩, 10), (⟨"BillOfMaterials$WeightRollUp", "weightOf", "(LBillOfMaterials$Bill;I)D"⟩, 1), (⟨"BillOfMaterials", "checkOrder", "(I)V"⟩, 10), (⟨"BillOfMaterialsModel", "fails", "(I)I"⟩, 30), (⟨"BillOfMaterialsModel", "isPart", "(I)Z"⟩, 30), (⟨"BillOfMaterialsModel", "adds", "(IIIIIIII)I"⟩, 30), (⟨"BillOfMaterialsModel", "reaches", "(II)Z"⟩, 30), (⟨"BillOfMaterialsModel", "isDeep", "(II)Z"⟩, 30), (⟨"BillOfMaterialsModel", "above", "(I)I"⟩, 30), (⟨"BillOfMaterialsModel", "below", "(I)I"⟩, 30), (⟨"BillOfMaterialsModel", "meets", "(IIIIII)Z"⟩, 30), (⟨"BillOfMaterialsModel", "puts", "(IIIIIIII)I"⟩, 30), (⟨"BillOfMaterialsModel", "isLine", "(I)Z"⟩, 30), (⟨"BillOfMaterialsModel", "isHeld", "(II)Z"⟩, 30), (⟨"BillOfMaterialsModel", "isListed", "(II)Z"⟩, 30), (⟨"BillOfMaterialsModel", "isAsked", "(II)Z"⟩, 30)]
theorem lw_r2 : ∀ q ∈ lw_privs_2, lw_okq q := List.forall_mem_cons.mpr ⟨lw_p16, List.forall_mem_cons.mpr ⟨lw_p17, List.forall_mem_cons.mpr ⟨lw_p18, List.forall_mem_cons.mpr ⟨lw_p19, List.forall_mem_cons.mpr ⟨lw_p20, List.forall_mem_cons.mpr ⟨lw_p21, List.forall_mem_cons.mpr ⟨lw_p22, List.forall_mem_cons.mpr ⟨lw_p23, List.forall_mem_cons.mpr ⟨lw_p24, List.forall_mem_cons.mpr ⟨lw_p25, List.forall_mem_cons.mpr ⟨lw_p26, List.forall_mem_cons.mpr ⟨lw_p27, List.forall_mem_cons.mpr ⟨lw_p28, List.forall_mem_cons.mpr ⟨lw_p29, List.forall_mem_cons.mpr ⟨lw_p30, List.forall_mem_cons.mpr ⟨lw_p31, fun _ h => absurd h List.not_mem_nil⟩⟩⟩⟩⟩⟩⟩⟩⟩⟩⟩⟩⟩⟩⟩⟩
theorem lw_p32 : lw_okq (⟨"BillOfMaterialsModel", "lists", "(IIJ)V"⟩, 30) := ⟨⟨by decide +kernel, by decide +kernel⟩, List.mem_of_getElem? (i := 1030) (by decide +kernel), List.mem_of_getElem? (i := 1258) (by decide +kernel), List.mem_of_getElem? (i := 1259) (by decide +kernel)⟩
theorem lw_p33 : lw_okq (⟨"BillOfMaterialsModel", "at", "(III)I"⟩, 30) := ⟨⟨by decide +kernel, by decide +kernel⟩, List.mem_of_getElem? (i := 1030) (by decide +kernel), List.mem_of_getElem? (i := 1262) (by decide +kernel), List.mem_of_getElem? (i := 1263) (by decide +kernel)⟩
theorem lw_p34 : lw_okq (⟨"BillOfMaterialsModel", "sets", "(C)V"⟩, 30) := ⟨⟨by decide +kernel, by decide +kernel⟩, List.mem_of_getElem? (i := 1030) (by decide +kernel), List.mem_of_getElem? (i := 1278) (by decide +kernel), List.mem_of_getElem? (i := 1279) (by decide +kernel)⟩
theorem lw_p35 : lw_okq (⟨"BillOfMaterialsModel", "writes", "(J)V"⟩, 30) := ⟨⟨by decide +kernel, by decide +kernel⟩, List.mem_of_getElem? (i := 1030) (by decide +kernel), List.mem_of_getElem? (i := 1282) (by decide +kernel), List.mem_of_getElem? (i := 1283) (by decide +kernel)⟩
theorem lw_p36 : lw_okq (⟨"BillOfMaterialsModel", "has", "(III)J"⟩, 30) := ⟨⟨by decide +kernel, by decide +kernel⟩, List.mem_of_getElem? (i := 1030) (by decide +kernel), List.mem_of_getElem? (i := 1296) (by decide +kernel), List.mem_of_getElem? (i := 1297) (by decide +kernel)⟩
theorem lw_p37 : lw_okq (⟨"BillOfMaterialsModel", "depth", "(II)I"⟩, 30) := ⟨⟨by decide +kernel, by decide +kernel⟩, List.mem_of_getElem? (i := 1030) (by decide +kernel), List.mem_of_getElem? (i := 1313) (by decide +kernel), List.mem_of_getElem? (i := 1314) (by decide +kernel)⟩
theorem lw_p38 : lw_okq (⟨"BillOfMaterialsModel", "price", "(II)F"⟩, 30) := ⟨⟨by decide +kernel, by decide +kernel⟩, List.mem_of_getElem? (i := 1030) (by decide +kernel), List.mem_of_getElem? (i := 1321) (by decide +kernel), List.mem_of_getElem? (i := 1322) (by decide +kernel)⟩
theorem lw_p39 : lw_okq (⟨"BillOfMaterialsModel", "more", "(II)F"⟩, 30) := ⟨⟨by decide +kernel, by decide +kernel⟩, List.mem_of_getElem? (i := 1030) (by decide +kernel), List.mem_of_getElem? (i := 1326) (by decide +kernel), List.mem_of_getElem? (i := 1327) (by decide +kernel)⟩
theorem lw_p40 : lw_okq (⟨"BillOfMaterialsModel", "mass", "(II)D"⟩, 30) := ⟨⟨by decide +kernel, by decide +kernel⟩, List.mem_of_getElem? (i := 1030) (by decide +kernel), List.mem_of_getElem? (i := 1361) (by decide +kernel), List.mem_of_getElem? (i := 1362) (by decide +kernel)⟩
theorem lw_p41 : lw_okq (⟨"BillOfMaterialsModel", "takes", "(I)V"⟩, 30) := ⟨⟨by decide +kernel, by decide +kernel⟩, List.mem_of_getElem? (i := 1030) (by decide +kernel), List.mem_of_getElem? (i := 1400) (by decide +kernel), List.mem_of_getElem? (i := 1401) (by decide +kernel)⟩
theorem lw_p42 : lw_okq (⟨"BillOfMaterialsModel", "gives", "()V"⟩, 30) := ⟨⟨by decide +kernel, by decide +kernel⟩, List.mem_of_getElem? (i := 1030) (by decide +kernel), List.mem_of_getElem? (i := 1404) (by decide +kernel), List.mem_of_getElem? (i := 1405) (by decide +kernel)⟩
def lw_privs_3 : List (MethodName × Nat) := [(⟨"BillOfMaterialsModel", "lists", "(IIJ)V"⟩, 30), (⟨"BillOfMaterialsModel", "at", "(III)I"⟩, 30), (⟨"BillOfMaterialsModel", "sets", "(C)V"⟩, 30), (⟨"BillOfMaterialsModel", "writes", "(J)V"⟩, 30), (⟨"BillOfMaterialsModel", "has", "(III)J"⟩, 30), (⟨"BillOfMaterialsModel", "depth", "(II)I"⟩, 30), (⟨"BillOfMaterialsModel", "price", "(II)F"⟩, 30), (⟨"BillOfMaterialsModel", "more", "(II)F"⟩, 30), (⟨"BillOfMaterialsModel", "mass", "(II)D"⟩, 30), (⟨"BillOfMaterialsModel", "takes", "(I)V"⟩, 30), (⟨"BillOfMaterialsModel", "gives", "()V"⟩, 30)]
theorem lw_r3 : ∀ q ∈ lw_privs_3, lw_okq q := List.forall_mem_cons.mpr ⟨lw_p32, List.forall_mem_cons.mpr ⟨lw_p33, List.forall_mem_cons.mpr ⟨lw_p34, List.forall_mem_cons.mpr ⟨lw_p35, List.forall_mem_cons.mpr ⟨lw_p36, List.forall_mem_cons.mpr ⟨lw_p37, List.forall_mem_cons.mpr ⟨lw_p38, List.forall_mem_cons.mpr ⟨lw_p39, List.forall_mem_cons.mpr ⟨lw_p40, List.forall_mem_cons.mpr ⟨lw_p41, List.forall_mem_cons.mpr ⟨lw_p42, fun _ h => absurd h List.not_mem_nil⟩⟩⟩⟩⟩⟩⟩⟩⟩⟩⟩
def lw_privs : List (MethodName × Nat) := lw_privs_1 ++ (lw_privs_2 ++ (lw_privs_3))
def lw_tbl : List Cond := k2_sels lw_privs ++ tables_1
theorem lw_privs_ok : ∀ q ∈ lw_privs, lw_okq q := by
  show ∀ q ∈ lw_privs_1 ++ (lw_privs_2 ++ (lw_privs_3)), lw_okq q
  exact List.forall_mem_append.mpr ⟨lw_r1, List.forall_mem_append.mpr ⟨lw_r2, lw_r3⟩⟩
/-- the streams that the claim lets the run draw from -/
abbrev lw_cs : List Choice := [Jvm.Choice.named "NaN.bits"]
theorem lw_bits : nanBits ∈ lw_cs := by first | decide | exact List.mem_cons_self | simp [lw_cs, nanBits]
-- ===== end of PART A; then your names; then what follows =====
end
section
/-! ===== BEGIN words of one list among another's, by their places ===== -/
theorem goodIn_r {big : List Cond} (ws : List Cond) (ps : List Nat) (hp : ws = ps.filterMap (fun i => big[i]?)) (h : ws.all goodWord = true) : GoodIn big ws := by
  intro w hw
  have h1 := List.all_eq_true.mp h w hw
  rw [hp] at hw
  obtain ⟨i, -, hi⟩ := List.mem_filterMap.mp hw
  have hm : w ∈ big := by first | exact List.mem_of_getElem? hi | exact List.getElem?_mem hi
  exact ⟨hm, good_of_word h1⟩
theorem goodIn_app {big a b : List Cond} (ha : GoodIn big a) (hb : GoodIn big b) : GoodIn big (a ++ b) := fun w h => (List.mem_append.mp h).elim (ha w) (hb w)
theorem goodIn_ca {big a b : List Cond} {c : Cond} (ha : GoodIn big (c :: a)) (hb : GoodIn big b) : GoodIn big (c :: (a ++ b)) := fun w h => (List.mem_cons.mp h).elim (fun e => ha w (List.mem_cons.mpr (Or.inl e))) (fun h => (List.mem_append.mp h).elim (fun h => ha w (List.mem_cons.mpr (Or.inr h))) (hb w))
theorem goodIn_sub {big ws : List Cond} (hm : ∀ w ∈ ws, w ∈ big) (h : ws.all goodWord = true) : GoodIn big ws := fun w hw => ⟨hm w hw, good_of_word (List.all_eq_true.mp h w hw)⟩
/-! ===== END ===== -/

/-! ===== BEGIN exceptions that leave a method, and their catching by the caller (launches without stack traces) ===== -/
section VXA
/-! The laws vx_back, vx_callV, vx_callS, vx_callSW, vx_throw0, vx_throwS follow proofs of the library, with one case more: JvmDerived/Free/Laws.lean (Back.of_free), Shelf42/LK1.lean (callV, callS), Shelf/KitTraced.lean (throwNew0V, throwNewS). -/
/-- where a method has thrown q: the class by its name, the cell, what was written, the world -/
def vx_T (XC : String → State → State → Prop) (st : State) (q : Addr) (t : State) (mc ms : Nat) (free : Addr → Prop) : Prop :=
  ∃ (E : String) (ce : Cell) (L : List Loc), XC E st t ∧ t.heap[q]? = some ce ∧ ce.vm = .none ∧ st.vm.findClass E = some ce.cls ∧ st.WarmedH t.vm ∧ st.sameButNew ({ t with vm := st.vm } : State) L mc ms ∧ ∀ z ∈ L, free z.base
def vx_Q (Qc : Array Value → State → Outcome → State → Prop) (XC : String → State → State → Prop) (mc ms : Nat) (free : Addr → Prop) : Array Value → State → Outcome → State → Prop := fun a st o t =>
  (Qc a st o t ∧ ∃ L, FrameEnd st o t L mc ms ∧ ∀ q ∈ L, free q.base) ∨ ∃ q, o = .threw q ∧ vx_T XC st q t mc ms free
/-- a callee that returns or throws -/
def vx_Met (l : Launch) (y : MethodName) (ws : List Cond) (rm : Room) (Pc : Array Value → State → Prop) (Qc : Array Value → State → Outcome → State → Prop) (XC : String → State → State → Prop) (mc ms : Nat) (free : Addr → Prop) : Prop :=
  MetFree l y (headSpec ws rm) Pc (fun _ _ _ _ _ => True) (vx_Q Qc XC mc ms free)
def vx_Post (XC : String → State → State → Prop) (mc ms : Nat) (free : Addr → Prop) : Pt → Array Value → Addr → Pt → Prop := fun A a q B =>
  ∃ (g : JFrame) (mk : MethodId) (t : State) (L : List Loc) (E : String) (ce : Cell), B.U.heap = t.heap ∧ B.U.vm = t.vm ∧ XC E (A.U.calling g mk a) t ∧ t.heap[q]? = some ce ∧ ce.vm = .none ∧ A.U.vm.findClass E = some ce.cls ∧ B.locs = A.locs ++ L ∧ (∀ z ∈ L, free z.base) ∧ B.cells = A.cells + mc ∧ B.slots = A.slots + ms
def vx_Back (l : Launch) (R : Room) (p : Program) (e : Env) (below : List Frame) (s : State) (sargs : Array Value) (y : MethodName) (len W9 : Nat)
    (Pre : Pt → Array Value → Prop) (Post : Pt → Array Value → Option Value → Pt → Prop) (PostX : Pt → Array Value → Addr → Pt → Prop) : Prop :=
  ∀ (m : MethodId) (meth : Method) (c : Code) (A : Pt) (g : JFrame) (ig : Instr) (mk : MethodId) (a : Array Value),
    Stand p l e R s m sargs below meth c A.U A.locs A.cells A.slots → g.method = m → g.locals.size = c.maxLocals → decode c.code g.pc = .ok (ig, len) →
    2 * g.monitorRoom + (g.stack.map fun v => v.category).sum ≤ W9 → A.U.methodNamed? y = some mk → Pre A a →
    (∃ (v : Option Value) (B : Pt), Stand p l e R s m sargs below meth c B.U B.locs B.cells B.slots ∧ Post A a v B ∧
      Steps p.tables e below (doInvoke e (A.U.setTop g) [] mk a).1 (B.U.setTop { g with pc := g.pc + len, stack := v.toList ++ g.stack })) ∨
    (∃ (q : Addr) (B : Pt), Stand p l e R s m sargs below meth c B.U B.locs B.cells B.slots ∧ PostX A a q B ∧
      Steps p.tables e below (doInvoke e (A.U.setTop g) [] mk a).1 ((B.U.setTop g).pushFrame (.throwing q)))
section Payer
variable {l : Launch} {R : Room} {p : Program} {e : Env} {below : List Frame} {s : State} {sargs : Array Value} {y : MethodName} {len W9 : Nat}
theorem vx_back {ws : List Cond} {rm : Room} {Pc : Array Value → State → Prop} {Qc : Array Value → State → Outcome → State → Prop} {XC : String → State → State → Prop} {mc ms : Nat} {free : Addr → Prop} {bytes : ByteArray} {maxL : Nat} {ret : Option FieldType}
    (hM : vx_Met l y ws rm Pc Qc XC mc ms free) (hblind : FrameBlind Pc) (hrc : rm.cells = mc) (hrs : rm.slots = ms)
    (hframes : rm.frames + 1 ≤ R.frames) (hlocals : W9 + (maxL + 11) + rm.locals ≤ R.locals)
    (hws : ∀ w ∈ ws, ∀ a' U, s.WarmedH U.vm → w.before a' U = true) (hcode : Cond.code y bytes maxL ret ∈ ws) (hinit : ∀ a' U, s.WarmedH U.vm → (Cond.initialized y.cls).before a' U = true) :
    vx_Back l R p e below s sargs y len W9 (PreOf R mc ms Pc) (PostOf Qc mc ms free) (vx_Post XC mc ms free) := by
  intro m meth c A g ig mk a X hg hsize hdg hW hn hp
  have h1 : (headSpec ws rm).pre.before a A.U = true := atoms_intro fun w hw => hws w hw _ _ X.warmed
  have h2 : (Cond.code y bytes maxL ret).before a A.U = true := hws _ hcode _ _ X.warmed
  have h3 : (Cond.initialized y.cls).before a A.U = true := hinit _ _ X.warmed
  have h4 : A.cells + (headSpec ws rm).room.cells ≤ R.cells := by rw [show (headSpec ws rm).room.cells = mc from hrc]; exact hp.1
  have h5 : A.slots + (headSpec ws rm).room.slots ≤ R.slots := by rw [show (headSpec ws rm).room.slots = ms from hrs]; exact hp.2.1
  have hPc : Pc a (A.U.calling g mk a) := hblind _ _ _ _ hp.2.2
  obtain ⟨U, Ls, c0, s0⟩ := A
  dsimp only [Pt.U, Pt.locs, Pt.cells, Pt.slots] at h1 h2 h3 h4 h5 X hn hPc ⊢
  obtain ⟨methY, cY, hmY, hcY, -, hlY, -, -, -, -⟩ := Cond.code_spec hn h2
  obtain ⟨kY, hkY, -⟩ := className_of_methodNamed hn
  have hinitY : kY.init = .initialized := Cond.initialized_spec (findClass_of_methodNamed hn) hkY h3
  have h : At U g.method c below := by rw [hg]; exact X.here
  have hlocals9 : W9 + (maxL + 11) + (headSpec ws rm).room.locals ≤ R.locals := hlocals
  have happ : (headSpec ws rm).appliesLoose y e.platform (U.calling g mk a) = true :=
    Spec.appliesLoose_calling (g := g) h hdg hn hkY hinitY
      (X.room_calling (g := g) (R' := (headSpec ws rm).room) hsize hmY hcY hframes (by rw [hlY]; omega) h4 h5) h1
  obtain ⟨mid, hmid⟩ := h.above
  have hfr : (U.setTop g).frames = (.java g :: mid) ++ below := by rw [State.frames_setTop' g h.top, hmid]; rfl
  obtain ⟨o, s₂, hsteps, -, hend, hq⟩ := Steps.callFree hM p X.admits X.cas X.clock (acts := []) hfr happ hPc trivial
  have hq' : vx_Q Qc XC mc ms free a (U.calling g mk a) o s₂ := hq
  rw [State.frames_setTop' g h.top] at hend
  obtain ⟨g₀, hg0⟩ := Option.isSome_iff_exists.mp h.top
  obtain ⟨r, hr⟩ := State.topJava?_eq_some.mp hg0
  have hr' : (({ U with heap := s₂.heap, slotsUsed := s₂.slotsUsed } : State).setVm s₂.vm).frames = .java g₀ :: r := hr
  rcases hq' with ⟨hqc, L, hfe, hL⟩ | ⟨q, rfl, E, ce, L, hx, hce, hcv, hcl, hW₂, hsm, hL⟩
  · obtain ⟨⟨v, rfl⟩, hW₂, e2, q2, q3, q4, q5, q6⟩ := id hfe
    have e3 : s₂ = ({ (U.calling g mk a).setFrames s₂.frames with heap := s₂.heap, slotsUsed := s₂.slotsUsed } : State).setVm s₂.vm := by
      have : s₂ = ({ s₂ with vm := (U.calling g mk a).vm } : State).setVm s₂.vm := rfl
      rw [e2] at this
      exact this
    obtain ⟨c₂, i₂, len₂, hc₂, hd₂, hf₂⟩ := hend
    have hW' : U.WarmedH s₂.vm := hW₂
    have hcc : c₂ = c := by
      have h1 : s₂.code? g.method = U.code? g.method := by
        rw [State.code?_eq, State.code?_eq, hW'.alike.method?]
      exact Option.some.inj (hc₂.symm.trans (h1.trans h.code))
    subst hcc
    have hlen : len₂ = len := by rw [hdg] at hd₂; cases hd₂; rfl
    subst hlen
    have hs₂ : s₂ = (({ U with heap := s₂.heap, slotsUsed := s₂.slotsUsed } : State).setVm s₂.vm).setTop { g with pc := g.pc + len₂, stack := v.toList ++ g.stack } := by
      refine e3.trans ?_
      rw [hf₂, State.calling_eq h.top, State.setFrames_setFrames, State.setTop_of_frames _ hr', hr]
      rfl
    have hsame : U.sameButNew ({ U with heap := s₂.heap, slotsUsed := s₂.slotsUsed } : State) L mc ms := by
      refine ⟨?_, q2, q3, q4, q5, q6⟩
      obtain ⟨t, ht, -⟩ := State.frames_cons hr
      show ({ U with heap := s₂.heap, slotsUsed := s₂.slotsUsed } : State) = { U.setFrames U.frames with heap := s₂.heap, slotsUsed := s₂.slotsUsed }
      rw [State.setFrames_self ht]
    subst hg
    refine Or.inl ⟨v, ⟨(({ U with heap := s₂.heap, slotsUsed := s₂.slotsUsed } : State).setVm s₂.vm), Ls ++ L, c0 + mc, s0 + ms⟩,
      ⟨X.admits, X.cas, X.clock, X.frames, X.room, X.hears, X.method, X.code, (X.here.setHeapUsed s₂.heap s₂.slotsUsed).setVm hW'.alike, X.tail, State.WarmedH.trans X.warmed hW', X.limits, X.bytes, X.same.trans (hsame.setVm s.vm)⟩,
      ⟨g, mk, s₂, L, rfl, rfl, hqc, rfl, hL, rfl, rfl⟩, ?_⟩
    show Steps p.tables e below _ ((({ U with heap := s₂.heap, slotsUsed := s₂.slotsUsed } : State).setVm s₂.vm).setTop { g with pc := g.pc + len₂, stack := v.toList ++ g.stack })
    rw [← hs₂]
    exact hsteps
  · obtain ⟨e2, q2, q3, q4, q5, q6⟩ := id hsm
    have e3 : s₂ = ({ (U.calling g mk a).setFrames s₂.frames with heap := s₂.heap, slotsUsed := s₂.slotsUsed } : State).setVm s₂.vm := by
      have : s₂ = ({ s₂ with vm := (U.calling g mk a).vm } : State).setVm s₂.vm := rfl
      rw [e2] at this
      exact this
    have hf₂ : s₂.frames = .throwing q :: .java g :: U.frames.tail := hend
    have hW' : U.WarmedH s₂.vm := hW₂
    have hs₂ : s₂ = ((({ U with heap := s₂.heap, slotsUsed := s₂.slotsUsed } : State).setVm s₂.vm).setTop g).pushFrame (.throwing q) := by
      refine e3.trans ?_
      rw [hf₂, State.calling_eq h.top, State.setFrames_setFrames, State.pushFrame, State.frames_setTop _ hr', State.setTop_of_frames _ hr', State.setFrames_setFrames, hr]
      rfl
    have hsame : U.sameButNew ({ U with heap := s₂.heap, slotsUsed := s₂.slotsUsed } : State) L mc ms := by
      refine ⟨?_, q2, q3, q4, q5, q6⟩
      obtain ⟨t, ht, -⟩ := State.frames_cons hr
      show ({ U with heap := s₂.heap, slotsUsed := s₂.slotsUsed } : State) = { U.setFrames U.frames with heap := s₂.heap, slotsUsed := s₂.slotsUsed }
      rw [State.setFrames_self ht]
    subst hg
    refine Or.inr ⟨q, ⟨(({ U with heap := s₂.heap, slotsUsed := s₂.slotsUsed } : State).setVm s₂.vm), Ls ++ L, c0 + mc, s0 + ms⟩,
      ⟨X.admits, X.cas, X.clock, X.frames, X.room, X.hears, X.method, X.code, (X.here.setHeapUsed s₂.heap s₂.slotsUsed).setVm hW'.alike, X.tail, State.WarmedH.trans X.warmed hW', X.limits, X.bytes, X.same.trans (hsame.setVm s.vm)⟩,
      ⟨g, mk, s₂, L, E, ce, rfl, rfl, hx, hce, hcv, hcl, rfl, hL, rfl, rfl⟩, ?_⟩
    show Steps p.tables e below _ (((({ U with heap := s₂.heap, slotsUsed := s₂.slotsUsed } : State).setVm s₂.vm).setTop g).pushFrame (.throwing q))
    rw [← hs₂]
    exact hsteps
end Payer
section Calls
variable {p : Program} {l : Launch} {e : Env} {R : Room} {s : State} {m : MethodId} {args : Array Value} {below : List Frame} {meth : Method} {c : Code} {T : State} {locs : List Loc} {cells slots : Nat}
theorem vx_callV (X : Stand p l e R s m args below meth c T locs cells slots) (hexec : p.tables.exec = Jvm.exec) {own C : String} {index : Nat} {y : MethodName} {bytes : ByteArray} {maxL : Nat} {ret : Option FieldType}
    (hown : s.vm.findClass own = some m.cls) (hlink : (Cond.methodLink own index y).before args s = true) (hinst : (Cond.instanceMethod y).before args s = true) (hsel : (Cond.selects C y y).before args s = true)
    (hcode : (Cond.code y bytes maxL ret).before args s = true) (hy : y.cls ≠ "java/lang/invoke/MethodHandle" ∧ y.cls ≠ "java/lang/invoke/VarHandle")
    {W9 : Nat} {Pre : Pt → Array Value → Prop} {Post : Pt → Array Value → Option Value → Pt → Prop} {PostX : Pt → Array Value → Addr → Pt → Prop} (hK : vx_Back l R p e below s args y 3 W9 Pre Post PostX)
    {b : Addr} {cellB : Cell} (hcell : T.heap[b]? = some cellB) (hobj : cellB.vm.isStatics = false) (hcls : s.vm.findClass C = some cellB.cls)
    {g : JFrame} (hg : g.method = m) (hsize : g.locals.size = c.maxLocals) {argsL rest : List Value} (hlen : ∀ sig, parseMethodDescriptor y.desc = some sig → argsL.length = sig.parameters.length)
    (hstack : g.stack = argsL.reverse ++ .ref b :: rest) (hW : 2 * g.monitorRoom + (rest.map fun v => v.category).sum ≤ W9) (hdg : decode c.code g.pc = .ok (.invokevirtual index, 3))
    (hpre : ∀ vm₁, s.WarmedH vm₁ → Pre ⟨T.setVm vm₁, locs, cells, slots⟩ (Value.ref b :: argsL).toArray) :
    (∃ (v : Option Value) (vm₁ : Vm) (B : Pt), s.WarmedH vm₁ ∧ Stand p l e R s m args below meth c B.U B.locs B.cells B.slots ∧ Post ⟨T.setVm vm₁, locs, cells, slots⟩ (Value.ref b :: argsL).toArray v B ∧
      ∀ target, Steps p.tables e below (B.U.setTop { g with pc := g.pc + 3, stack := v.toList ++ rest }) target → Steps p.tables e below (T.setTop g) target) ∨
    (∃ (q : Addr) (vm₁ : Vm) (B : Pt), s.WarmedH vm₁ ∧ Stand p l e R s m args below meth c B.U B.locs B.cells B.slots ∧ PostX ⟨T.setVm vm₁, locs, cells, slots⟩ (Value.ref b :: argsL).toArray q B ∧
      Steps p.tables e below (T.setTop g) ((B.U.setTop { g with stack := rest }).pushFrame (.throwing q))) := by
  obtain ⟨mk, methM, hnamed, hmethM, hstM, habM⟩ := Cond.instanceMethod_spec hinst
  obtain ⟨methM', cM, hmethM', -, -, -, -, -, -, hsigM⟩ := Cond.code_spec hnamed hcode
  cases hmethM.symm.trans hmethM'
  obtain ⟨c2, r2, m2, q1, q2, q3, q4, kP, hkP, hkPi⟩ := Cond.selects_spec hsel
  cases hcls.symm.trans q1
  cases (State.methodFound?_of_named hnamed hy).symm.trans q2
  cases hnamed.symm.trans q3
  have hselP : selectMethod e.platform s.vm cellB.cls mk = .method mk := by rw [Launch.admits_selectMethod X.admits]; exact q4
  obtain ⟨vm₁, X₁, hstep₁⟩ := X.invokevirtual hexec hown hlink hnamed hmethM hstM hkP hkPi hy (a := b) (cell := cellB) hcell
    (fun z h => by rw [h] at hobj; cases hobj) hselP hmethM habM hkP hkPi (g := g) hg (argsL := argsL) (rest := rest) (hlen _ hsigM) hstack hdg
  rcases hK m meth c ⟨T.setVm vm₁, locs, cells, slots⟩ { g with stack := rest } (.invokevirtual index) mk (Value.ref b :: argsL).toArray X₁ hg hsize hdg hW (X₁.named hnamed) (hpre vm₁ X₁.warmed) with ⟨v, B, X', hpost, hsteps⟩ | ⟨q, B, X', hpost, hsteps⟩
  · exact Or.inl ⟨v, vm₁, B, X₁.warmed, X', hpost, fun target h => hstep₁ _ fun acts => by rw [doInvoke_state]; exact hsteps.trans h⟩
  · exact Or.inr ⟨q, vm₁, B, X₁.warmed, X', hpost, hstep₁ _ fun acts => by rw [doInvoke_state]; exact hsteps⟩
theorem vx_callS (X : Stand p l e R s m args below meth c T locs cells slots) (hexec : p.tables.exec = Jvm.exec) {own : String} {index : Nat} {y : MethodName} {bytes : ByteArray} {maxL : Nat} {ret : Option FieldType}
    (hown : s.vm.findClass own = some m.cls) (hlink : (Cond.methodLink own index y).before args s = true) (hstat : (Cond.static y).before args s = true) (hinit : (Cond.initialized y.cls).before args s = true)
    (hcode : (Cond.code y bytes maxL ret).before args s = true) (hy : y.cls ≠ "java/lang/invoke/MethodHandle" ∧ y.cls ≠ "java/lang/invoke/VarHandle")
    {W9 : Nat} {Pre : Pt → Array Value → Prop} {Post : Pt → Array Value → Option Value → Pt → Prop} {PostX : Pt → Array Value → Addr → Pt → Prop} (hK : vx_Back l R p e below s args y 3 W9 Pre Post PostX)
    {g : JFrame} (hg : g.method = m) (hsize : g.locals.size = c.maxLocals) {argsL rest : List Value} (hlen : ∀ sig, parseMethodDescriptor y.desc = some sig → argsL.length = sig.parameters.length)
    (hstack : g.stack = argsL.reverse ++ rest) (hW : 2 * g.monitorRoom + (rest.map fun v => v.category).sum ≤ W9) (hdg : decode c.code g.pc = .ok (.invokestatic index, 3))
    (hpre : ∀ vm₁, s.WarmedH vm₁ → Pre ⟨T.setVm vm₁, locs, cells, slots⟩ argsL.toArray) :
    (∃ (v : Option Value) (vm₁ : Vm) (B : Pt), s.WarmedH vm₁ ∧ Stand p l e R s m args below meth c B.U B.locs B.cells B.slots ∧ Post ⟨T.setVm vm₁, locs, cells, slots⟩ argsL.toArray v B ∧
      ∀ target, Steps p.tables e below (B.U.setTop { g with pc := g.pc + 3, stack := v.toList ++ rest }) target → Steps p.tables e below (T.setTop g) target) ∨
    (∃ (q : Addr) (vm₁ : Vm) (B : Pt), s.WarmedH vm₁ ∧ Stand p l e R s m args below meth c B.U B.locs B.cells B.slots ∧ PostX ⟨T.setVm vm₁, locs, cells, slots⟩ argsL.toArray q B ∧
      Steps p.tables e below (T.setTop g) ((B.U.setTop { g with stack := rest }).pushFrame (.throwing q))) := by
  obtain ⟨mk, hnamed⟩ := Cond.code_named hcode
  obtain ⟨methM, cM, hmethM, -, -, -, -, -, -, hsigM⟩ := Cond.code_spec hnamed hcode
  have hstatic : methM.isStatic = true := Cond.static_spec hnamed hmethM hstat
  obtain ⟨kP, hkP, -⟩ := className_of_methodNamed hnamed
  have hinitP : kP.init = .initialized := Cond.initialized_spec (findClass_of_methodNamed hnamed) hkP hinit
  obtain ⟨vm₁, X₁, hstep₁⟩ := X.invokestatic hexec hown hlink hnamed hmethM hstatic hkP hinitP hy (g := g) hg (argsL := argsL) (rest := rest) (hlen _ hsigM) hstack hdg
  rcases hK m meth c ⟨T.setVm vm₁, locs, cells, slots⟩ { g with stack := rest } (.invokestatic index) mk argsL.toArray X₁ hg hsize hdg hW (X₁.named hnamed) (hpre vm₁ X₁.warmed) with ⟨v, B, X', hpost, hsteps⟩ | ⟨q, B, X', hpost, hsteps⟩
  · exact Or.inl ⟨v, vm₁, B, X₁.warmed, X', hpost, fun target h => hstep₁ _ fun acts => by rw [doInvoke_state]; exact hsteps.trans h⟩
  · exact Or.inr ⟨q, vm₁, B, X₁.warmed, X', hpost, hstep₁ _ fun acts => by rw [doInvoke_state]; exact hsteps⟩
end Calls
theorem vx_cls {s : State} {T : State} {vm₁ : Vm} {E : String} {k : ClassId} (hW : s.WarmedH vm₁) (h : (T.setVm vm₁).vm.findClass E = some k) : s.vm.findClass E = some k := by
  have h1 : vm₁.findClass E = some k := h
  rw [hW.alike.findClass] at h1
  exact h1
/-- the method's frame g, with q thrown over it -/
def vx_W (p : Program) (l : Launch) (e : Env) (R : Room) (s : State) (m : MethodId) (args : Array Value) (below : List Frame) (meth : Method) (c : Code) (H : Heap) (locs : List Loc) (cells slots : Nat) (Q : State → Prop) (g : JFrame) (q : Addr) : Prop :=
  ∀ T : State, T.heap = H → Stand p l e R s m args below meth c T locs cells slots → ∃ t, Steps p.tables e below ((T.setTop g).pushFrame (.throwing q)) t ∧ Q t
def vx_Run (p : Program) (l : Launch) (e : Env) (R : Room) (s : State) (m : MethodId) (args : Array Value) (below : List Frame) (meth : Method) (c : Code) (H : Heap) (locs : List Loc) (cells slots mc ms : Nat) (g : JFrame) (rest : List Value) (Qa : State → Outcome → State → Prop) (XC : String → State → State → Prop) (free : Addr → Prop) : Prop :=
  ∀ T : State, T.heap = H → Stand p l e R s m args below meth c T locs cells slots →
    (∃ (v : Option Value) (st₀ t T' : State) (L : List Loc), st₀.heap = H ∧ Stand p l e R s m args below meth c T' (locs ++ L) (cells + mc) (slots + ms) ∧ (∀ q ∈ L, free q.base) ∧ T'.heap = t.heap ∧ T'.vm = t.vm ∧ Qa st₀ (.returned v) t ∧
      Goes p e below T g T' { g with pc := g.pc + 3, stack := v.toList ++ rest }) ∨
    (∃ (q : Addr) (st₀ t T' : State) (L : List Loc) (E : String) (ce : Cell), st₀.heap = H ∧ Stand p l e R s m args below meth c T' (locs ++ L) (cells + mc) (slots + ms) ∧ (∀ z ∈ L, free z.base) ∧ T'.heap = t.heap ∧ T'.vm = t.vm ∧ XC E st₀ t ∧ t.heap[q]? = some ce ∧ ce.vm = .none ∧ s.vm.findClass E = some ce.cls ∧
      Steps p.tables e below (T.setTop g) ((T'.setTop { g with stack := rest }).pushFrame (.throwing q)))
def vx_X {S : Type} (px : S → Prop) (B : String → S → State → Prop) (A : Nat → Prop) : String → State → State → Prop := fun E st t => ∃ u : S, px u ∧ B E u t ∧ va_F A st t
section Runs
variable {p : Program} {l : Launch} {e : Env} {R : Room} {s : State} {m : MethodId} {args : Array Value} {below : List Frame} {meth : Method} {c : Code} {H : Heap} {locs : List Loc} {cells slots : Nat}
variable {y : MethodName} {bytes cc : ByteArray} {maxL nL mc ms n index : Nat} {ret : Option FieldType} {ws : List Cond} {rm : Room} {Pc : Array Value → State → Prop} {Qc : Array Value → State → Outcome → State → Prop} {XC : String → State → State → Prop} {free : Addr → Prop} {Ts : List Cond} {own C : String} {b : Addr} {As rest : List Value} {g : JFrame}
theorem vx_callBack (cb : CallB R s args own index y bytes maxL ret ws rm mc ms n) (hM : vx_Met l y ws rm Pc Qc XC mc ms free) (hbl : FrameBlind Pc) : vx_Back l R p e below s args y 3 8 (PreOf R mc ms Pc) (PostOf Qc mc ms free) (vx_Post XC mc ms free) := by
  obtain ⟨hrc, hrs, hfr, hlo, hws, hcw, -, hini, -⟩ := cb
  exact vx_back (bytes := bytes) (maxL := maxL) (ret := ret) hM hbl hrc hrs hfr hlo hws hcw (fun a' U hW => word_at hW (Or.inl (by first | rfl | simp [Cond.onTables, Cond.keeps, Cond.steady])) hini)
theorem vx_runV (S : CallFix p m c cc nL s args Ts own) (hM : vx_Met l y ws rm Pc Qc XC mc ms free) (cw : CallW R s args own C index y bytes maxL ret ws rm mc ms n) (hp : PreV s H C b Pc As)
    (hg : g.method = m) (hn : As.length = n) (hsize : g.locals.size = nL) (hstack : g.stack = As.reverse ++ .ref b :: rest) (hW : 2 * g.monitorRoom + (rest.map fun v => v.category).sum ≤ 8) (hdg : decode cc g.pc = .ok (.invokevirtual index, 3)) (hf : cells + mc ≤ R.cells ∧ slots + ms ≤ R.slots) :
    vx_Run p l e R s m args below meth c H locs cells slots mc ms g rest (Qc (Value.ref b :: As).toArray) XC free := by
  have hK : vx_Back l R p e below s args y 3 8 (PreOf R mc ms Pc) (PostOf Qc mc ms free) (vx_Post XC mc ms free) := vx_callBack cw.1 hM hp.1
  obtain ⟨⟨-, -, -, -, -, -, hcode, -, hy, hlen, hl⟩, hin, hse⟩ := cw
  obtain ⟨hx, hb, hml, ho, -⟩ := S
  obtain ⟨-, ⟨cellB, hcB, hoB, hclB⟩, hPc⟩ := hp
  intro T hT X
  rcases vx_callV X hx (C := C) (bytes := bytes) (maxL := maxL) (ret := ret) ho hl hin hse hcode hy hK (by rw [hT]; exact hcB) hoB hclB hg (hsize.trans hml.symm) (argsL := As) (rest := rest) (fun sig h => hn.trans (hlen sig h)) hstack hW (by rw [hb]; exact hdg)
    (fun vm₁ hW₁ => ⟨hf.1, hf.2, hPc (T.setVm vm₁) hT hW₁⟩) with ⟨v, vm₁, ⟨U', l2, c2, s2⟩, hW₁, X', ⟨g', mk, t, L, e1, e2, hq, h1, hL, h2, h3⟩, st⟩ | ⟨q, vm₁, ⟨U', l2, c2, s2⟩, hW₁, X', ⟨g', mk, t, L, E, ce, e1, e2, hq, hce, hcv, hcl, h1, hL, h2, h3⟩, st⟩
  · dsimp only [Pt.U, Pt.locs, Pt.cells, Pt.slots] at X' e1 e2 h1 h2 h3 st
    subst h1; subst h2; subst h3
    exact Or.inl ⟨v, (T.setVm vm₁).calling g' mk (Value.ref b :: As).toArray, t, U', L, hT, X', hL, e1, e2, hq, st⟩
  · dsimp only [Pt.U, Pt.locs, Pt.cells, Pt.slots] at X' e1 e2 h1 h2 h3 st hcl
    subst h1; subst h2; subst h3
    exact Or.inr ⟨q, (T.setVm vm₁).calling g' mk (Value.ref b :: As).toArray, t, U', L, E, ce, hT, X', hL, e1, e2, hq, hce, hcv, vx_cls hW₁ hcl, st⟩
theorem vx_runS (S : CallFix p m c cc nL s args Ts own) (hM : vx_Met l y ws rm Pc Qc XC mc ms free) (cw : CallB R s args own index y bytes maxL ret ws rm mc ms n ∧ (Cond.static y).before args s = true) (hp : PreS s H Pc As)
    (hg : g.method = m) (hn : As.length = n) (hsize : g.locals.size = nL) (hstack : g.stack = As.reverse ++ rest) (hW : 2 * g.monitorRoom + (rest.map fun v => v.category).sum ≤ 8) (hdg : decode cc g.pc = .ok (.invokestatic index, 3)) (hf : cells + mc ≤ R.cells ∧ slots + ms ≤ R.slots) :
    vx_Run p l e R s m args below meth c H locs cells slots mc ms g rest (Qc As.toArray) XC free := by
  have hK : vx_Back l R p e below s args y 3 8 (PreOf R mc ms Pc) (PostOf Qc mc ms free) (vx_Post XC mc ms free) := vx_callBack cw.1 hM hp.1
  obtain ⟨⟨-, -, -, -, -, -, hcode, hini, hy, hlen, hl⟩, hstt⟩ := cw
  obtain ⟨hx, hb, hml, ho, -⟩ := S
  intro T hT X
  rcases vx_callS X hx (bytes := bytes) (maxL := maxL) (ret := ret) ho hl hstt hini hcode hy hK hg (hsize.trans hml.symm) (argsL := As) (rest := rest) (fun sig h => hn.trans (hlen sig h)) hstack hW (by rw [hb]; exact hdg)
    (fun vm₁ hW₁ => ⟨hf.1, hf.2, hp.2 (T.setVm vm₁) hT hW₁⟩) with ⟨v, vm₁, ⟨U', l2, c2, s2⟩, hW₁, X', ⟨g', mk, t, L, e1, e2, hq, h1, hL, h2, h3⟩, st⟩ | ⟨q, vm₁, ⟨U', l2, c2, s2⟩, hW₁, X', ⟨g', mk, t, L, E, ce, e1, e2, hq, hce, hcv, hcl, h1, hL, h2, h3⟩, st⟩
  · dsimp only [Pt.U, Pt.locs, Pt.cells, Pt.slots] at X' e1 e2 h1 h2 h3 st
    subst h1; subst h2; subst h3
    exact Or.inl ⟨v, (T.setVm vm₁).calling g' mk As.toArray, t, U', L, hT, X', hL, e1, e2, hq, st⟩
  · dsimp only [Pt.U, Pt.locs, Pt.cells, Pt.slots] at X' e1 e2 h1 h2 h3 st hcl
    subst h1; subst h2; subst h3
    exact Or.inr ⟨q, (T.setVm vm₁).calling g' mk As.toArray, t, U', L, E, ce, hT, X', hL, e1, e2, hq, hce, hcv, vx_cls hW₁ hcl, st⟩
end Runs
section Rows
variable {p : Program} {l : Launch} {e : Env} {R : Room} {s : State} {m : MethodId} {args : Array Value} {below : List Frame} {meth : Method} {c : Code} {H : Heap} {locs : List Loc} {cells slots : Nat} {Q : State → Prop}
variable {mc ms : Nat} {free : Addr → Prop} {A0 A1 : Nat → Prop} {H0 : Heap} {a : Array Value} {pc : Nat} {ls : Array Slot} {st0 rest : List Value}
theorem vx_keep {st₀ t T' : State} {L : List Loc} (h0 : st₀.heap = H) (e1 : T'.heap = t.heap) (hS : va_S A0 H0 H locs) (hA : ∀ q, q < H.size → A1 q → A0 q) (hf : ∀ q, free q → A0 q) (hL : ∀ q ∈ L, free q.base) (hF : va_F A1 st₀ t) :
    H.size ≤ T'.heap.size ∧ (∀ q : Nat, q < H.size → ¬ A1 q → T'.heap[q]? = H[q]?) ∧ va_S A0 H0 T'.heap (locs ++ L) := by
  obtain ⟨hz, hk⟩ := hF
  rw [h0] at hz hk
  exact ⟨by rw [e1]; exact hz, fun q h1 h2 => by rw [e1]; exact hk q h1 h2,
    ⟨Nat.le_trans hS.1 (by rw [e1]; exact hz), fun q h1 h2 => by rw [e1, hk q (Nat.lt_of_lt_of_le h1 hS.1) (fun z => h2 (hA q (Nat.lt_of_lt_of_le h1 hS.1) z))]; exact hS.2.1 q h1 h2, fun q hq => by
      rcases List.mem_append.mp hq with h | h
      · exact hS.2.2 q h
      · exact hf _ (hL q h)⟩⟩
theorem vx_calli {S SX : Type} {post : Int32 → S → Prop} {px : SX → Prop} {B : S → State → Prop} {BX : String → SX → State → Prop} {AX : Nat → Prop} (hr : vx_Run p l e R s m args below meth c H locs cells slots mc ms (F0 m pc ls st0) rest (va_Qi post B A1 a) (vx_X px BX AX) free) (hS : va_S A0 H0 H locs) (hA : ∀ q, q < H.size → A1 q → A0 q) (hf : ∀ q, free q → A0 q) (hAX : ∀ q, q < H.size → AX q → A0 q)
    (kx : ∀ (E : String) (ce : Cell) (q9 : Addr) (u : SX) (t : State) (H1 : Heap) (locs1 : List Loc), t.heap = H1 → s.vm.Alike t.vm → px u → BX E u t → H.size ≤ H1.size → (∀ q : Nat, q < H.size → ¬ AX q → H1[q]? = H[q]?) → va_S A0 H0 H1 locs1 → H1[q9]? = some ce → ce.vm = .none → s.vm.findClass E = some ce.cls → vx_W p l e R s m args below meth c H1 locs1 (cells + mc) (slots + ms) Q (F0 m pc ls rest) q9)
    (kk : ∀ (r : Int32) (u : S) (t : State) (H1 : Heap) (locs1 : List Loc), t.heap = H1 → s.vm.Alike t.vm → post r u → B u t → H.size ≤ H1.size → (∀ q : Nat, q < H.size → ¬ A1 q → H1[q]? = H[q]?) → va_S A0 H0 H1 locs1 → W p l e R s m args below meth c H1 locs1 (cells + mc) (slots + ms) Q (F0 m (pc + 3) ls (.int r :: rest))) : W p l e R s m args below meth c H locs cells slots Q (F0 m pc ls st0) := by
  intro T hT X
  rcases hr T hT X with ⟨v, st₀, t, T', L, h0, X', hL, e1, e2, ⟨⟨r, u, hv, hp, hb⟩, hF⟩, st⟩ | ⟨q, st₀, t, T', L, E, ce, h0, X', hL, e1, e2, ⟨u, hp, hb, hF⟩, hce, hcv, hcl, st⟩
  · cases hv
    obtain ⟨k1, k2, k3⟩ := vx_keep h0 e1 hS hA hf hL hF
    obtain ⟨t2, a1, b1⟩ := kk r u t T'.heap (locs ++ L) e1.symm (by rw [← e2]; exact X'.warmed.alike) hp hb k1 k2 k3 T' rfl X'
    exact ⟨t2, st t2 a1, b1⟩
  · obtain ⟨k1, k2, k3⟩ := vx_keep h0 e1 hS hAX hf hL hF
    obtain ⟨t2, a1, b1⟩ := kx E ce q u t T'.heap (locs ++ L) e1.symm (by rw [← e2]; exact X'.warmed.alike) hp hb k1 k2 k3 (by rw [e1]; exact hce) hcv hcl T' rfl X'
    exact ⟨t2, st.trans a1, b1⟩
theorem vx_calll {S SX : Type} {post : Int64 → S → Prop} {px : SX → Prop} {B : S → State → Prop} {BX : String → SX → State → Prop} {AX : Nat → Prop} (hr : vx_Run p l e R s m args below meth c H locs cells slots mc ms (F0 m pc ls st0) rest (va_Ql post B A1 a) (vx_X px BX AX) free) (hS : va_S A0 H0 H locs) (hA : ∀ q, q < H.size → A1 q → A0 q) (hf : ∀ q, free q → A0 q) (hAX : ∀ q, q < H.size → AX q → A0 q)
    (kx : ∀ (E : String) (ce : Cell) (q9 : Addr) (u : SX) (t : State) (H1 : Heap) (locs1 : List Loc), t.heap = H1 → s.vm.Alike t.vm → px u → BX E u t → H.size ≤ H1.size → (∀ q : Nat, q < H.size → ¬ AX q → H1[q]? = H[q]?) → va_S A0 H0 H1 locs1 → H1[q9]? = some ce → ce.vm = .none → s.vm.findClass E = some ce.cls → vx_W p l e R s m args below meth c H1 locs1 (cells + mc) (slots + ms) Q (F0 m pc ls rest) q9)
    (kk : ∀ (r : Int64) (u : S) (t : State) (H1 : Heap) (locs1 : List Loc), t.heap = H1 → s.vm.Alike t.vm → post r u → B u t → H.size ≤ H1.size → (∀ q : Nat, q < H.size → ¬ A1 q → H1[q]? = H[q]?) → va_S A0 H0 H1 locs1 → W p l e R s m args below meth c H1 locs1 (cells + mc) (slots + ms) Q (F0 m (pc + 3) ls (.long r :: rest))) : W p l e R s m args below meth c H locs cells slots Q (F0 m pc ls st0) := by
  intro T hT X
  rcases hr T hT X with ⟨v, st₀, t, T', L, h0, X', hL, e1, e2, ⟨⟨r, u, hv, hp, hb⟩, hF⟩, st⟩ | ⟨q, st₀, t, T', L, E, ce, h0, X', hL, e1, e2, ⟨u, hp, hb, hF⟩, hce, hcv, hcl, st⟩
  · cases hv
    obtain ⟨k1, k2, k3⟩ := vx_keep h0 e1 hS hA hf hL hF
    obtain ⟨t2, a1, b1⟩ := kk r u t T'.heap (locs ++ L) e1.symm (by rw [← e2]; exact X'.warmed.alike) hp hb k1 k2 k3 T' rfl X'
    exact ⟨t2, st t2 a1, b1⟩
  · obtain ⟨k1, k2, k3⟩ := vx_keep h0 e1 hS hAX hf hL hF
    obtain ⟨t2, a1, b1⟩ := kx E ce q u t T'.heap (locs ++ L) e1.symm (by rw [← e2]; exact X'.warmed.alike) hp hb k1 k2 k3 (by rw [e1]; exact hce) hcv hcl T' rfl X'
    exact ⟨t2, st.trans a1, b1⟩
theorem vx_callf {S SX : Type} {post : UInt32 → S → Prop} {px : SX → Prop} {B : S → State → Prop} {BX : String → SX → State → Prop} {AX : Nat → Prop} (hr : vx_Run p l e R s m args below meth c H locs cells slots mc ms (F0 m pc ls st0) rest (va_Qf post B A1 a) (vx_X px BX AX) free) (hS : va_S A0 H0 H locs) (hA : ∀ q, q < H.size → A1 q → A0 q) (hf : ∀ q, free q → A0 q) (hAX : ∀ q, q < H.size → AX q → A0 q)
    (kx : ∀ (E : String) (ce : Cell) (q9 : Addr) (u : SX) (t : State) (H1 : Heap) (locs1 : List Loc), t.heap = H1 → s.vm.Alike t.vm → px u → BX E u t → H.size ≤ H1.size → (∀ q : Nat, q < H.size → ¬ AX q → H1[q]? = H[q]?) → va_S A0 H0 H1 locs1 → H1[q9]? = some ce → ce.vm = .none → s.vm.findClass E = some ce.cls → vx_W p l e R s m args below meth c H1 locs1 (cells + mc) (slots + ms) Q (F0 m pc ls rest) q9)
    (kk : ∀ (r : UInt32) (u : S) (t : State) (H1 : Heap) (locs1 : List Loc), t.heap = H1 → s.vm.Alike t.vm → post r u → B u t → H.size ≤ H1.size → (∀ q : Nat, q < H.size → ¬ A1 q → H1[q]? = H[q]?) → va_S A0 H0 H1 locs1 → W p l e R s m args below meth c H1 locs1 (cells + mc) (slots + ms) Q (F0 m (pc + 3) ls (.float r :: rest))) : W p l e R s m args below meth c H locs cells slots Q (F0 m pc ls st0) := by
  intro T hT X
  rcases hr T hT X with ⟨v, st₀, t, T', L, h0, X', hL, e1, e2, ⟨⟨r, u, hv, hp, hb⟩, hF⟩, st⟩ | ⟨q, st₀, t, T', L, E, ce, h0, X', hL, e1, e2, ⟨u, hp, hb, hF⟩, hce, hcv, hcl, st⟩
  · cases hv
    obtain ⟨k1, k2, k3⟩ := vx_keep h0 e1 hS hA hf hL hF
    obtain ⟨t2, a1, b1⟩ := kk r u t T'.heap (locs ++ L) e1.symm (by rw [← e2]; exact X'.warmed.alike) hp hb k1 k2 k3 T' rfl X'
    exact ⟨t2, st t2 a1, b1⟩
  · obtain ⟨k1, k2, k3⟩ := vx_keep h0 e1 hS hAX hf hL hF
    obtain ⟨t2, a1, b1⟩ := kx E ce q u t T'.heap (locs ++ L) e1.symm (by rw [← e2]; exact X'.warmed.alike) hp hb k1 k2 k3 (by rw [e1]; exact hce) hcv hcl T' rfl X'
    exact ⟨t2, st.trans a1, b1⟩
theorem vx_calld {S SX : Type} {post : UInt64 → S → Prop} {px : SX → Prop} {B : S → State → Prop} {BX : String → SX → State → Prop} {AX : Nat → Prop} (hr : vx_Run p l e R s m args below meth c H locs cells slots mc ms (F0 m pc ls st0) rest (va_Qd post B A1 a) (vx_X px BX AX) free) (hS : va_S A0 H0 H locs) (hA : ∀ q, q < H.size → A1 q → A0 q) (hf : ∀ q, free q → A0 q) (hAX : ∀ q, q < H.size → AX q → A0 q)
    (kx : ∀ (E : String) (ce : Cell) (q9 : Addr) (u : SX) (t : State) (H1 : Heap) (locs1 : List Loc), t.heap = H1 → s.vm.Alike t.vm → px u → BX E u t → H.size ≤ H1.size → (∀ q : Nat, q < H.size → ¬ AX q → H1[q]? = H[q]?) → va_S A0 H0 H1 locs1 → H1[q9]? = some ce → ce.vm = .none → s.vm.findClass E = some ce.cls → vx_W p l e R s m args below meth c H1 locs1 (cells + mc) (slots + ms) Q (F0 m pc ls rest) q9)
    (kk : ∀ (r : UInt64) (u : S) (t : State) (H1 : Heap) (locs1 : List Loc), t.heap = H1 → s.vm.Alike t.vm → post r u → B u t → H.size ≤ H1.size → (∀ q : Nat, q < H.size → ¬ A1 q → H1[q]? = H[q]?) → va_S A0 H0 H1 locs1 → W p l e R s m args below meth c H1 locs1 (cells + mc) (slots + ms) Q (F0 m (pc + 3) ls (.double r :: rest))) : W p l e R s m args below meth c H locs cells slots Q (F0 m pc ls st0) := by
  intro T hT X
  rcases hr T hT X with ⟨v, st₀, t, T', L, h0, X', hL, e1, e2, ⟨⟨r, u, hv, hp, hb⟩, hF⟩, st⟩ | ⟨q, st₀, t, T', L, E, ce, h0, X', hL, e1, e2, ⟨u, hp, hb, hF⟩, hce, hcv, hcl, st⟩
  · cases hv
    obtain ⟨k1, k2, k3⟩ := vx_keep h0 e1 hS hA hf hL hF
    obtain ⟨t2, a1, b1⟩ := kk r u t T'.heap (locs ++ L) e1.symm (by rw [← e2]; exact X'.warmed.alike) hp hb k1 k2 k3 T' rfl X'
    exact ⟨t2, st t2 a1, b1⟩
  · obtain ⟨k1, k2, k3⟩ := vx_keep h0 e1 hS hAX hf hL hF
    obtain ⟨t2, a1, b1⟩ := kx E ce q u t T'.heap (locs ++ L) e1.symm (by rw [← e2]; exact X'.warmed.alike) hp hb k1 k2 k3 (by rw [e1]; exact hce) hcv hcl T' rfl X'
    exact ⟨t2, st.trans a1, b1⟩
theorem vx_callv {S SX : Type} {post : S → Prop} {px : SX → Prop} {B : S → State → Prop} {BX : String → SX → State → Prop} {AX : Nat → Prop} (hr : vx_Run p l e R s m args below meth c H locs cells slots mc ms (F0 m pc ls st0) rest (va_Qv post B A1 a) (vx_X px BX AX) free) (hS : va_S A0 H0 H locs) (hA : ∀ q, q < H.size → A1 q → A0 q) (hf : ∀ q, free q → A0 q) (hAX : ∀ q, q < H.size → AX q → A0 q)
    (kx : ∀ (E : String) (ce : Cell) (q9 : Addr) (u : SX) (t : State) (H1 : Heap) (locs1 : List Loc), t.heap = H1 → s.vm.Alike t.vm → px u → BX E u t → H.size ≤ H1.size → (∀ q : Nat, q < H.size → ¬ AX q → H1[q]? = H[q]?) → va_S A0 H0 H1 locs1 → H1[q9]? = some ce → ce.vm = .none → s.vm.findClass E = some ce.cls → vx_W p l e R s m args below meth c H1 locs1 (cells + mc) (slots + ms) Q (F0 m pc ls rest) q9)
    (kk : ∀ (u : S) (t : State) (H1 : Heap) (locs1 : List Loc), t.heap = H1 → s.vm.Alike t.vm → post u → B u t → H.size ≤ H1.size → (∀ q : Nat, q < H.size → ¬ A1 q → H1[q]? = H[q]?) → va_S A0 H0 H1 locs1 → W p l e R s m args below meth c H1 locs1 (cells + mc) (slots + ms) Q (F0 m (pc + 3) ls (rest))) : W p l e R s m args below meth c H locs cells slots Q (F0 m pc ls st0) := by
  intro T hT X
  rcases hr T hT X with ⟨v, st₀, t, T', L, h0, X', hL, e1, e2, ⟨⟨u, hv, hp, hb⟩, hF⟩, st⟩ | ⟨q, st₀, t, T', L, E, ce, h0, X', hL, e1, e2, ⟨u, hp, hb, hF⟩, hce, hcv, hcl, st⟩
  · cases hv
    obtain ⟨k1, k2, k3⟩ := vx_keep h0 e1 hS hA hf hL hF
    obtain ⟨t2, a1, b1⟩ := kk u t T'.heap (locs ++ L) e1.symm (by rw [← e2]; exact X'.warmed.alike) hp hb k1 k2 k3 T' rfl X'
    exact ⟨t2, st t2 a1, b1⟩
  · obtain ⟨k1, k2, k3⟩ := vx_keep h0 e1 hS hAX hf hL hF
    obtain ⟨t2, a1, b1⟩ := kx E ce q u t T'.heap (locs ++ L) e1.symm (by rw [← e2]; exact X'.warmed.alike) hp hb k1 k2 k3 (by rw [e1]; exact hce) hcv hcl T' rfl X'
    exact ⟨t2, st.trans a1, b1⟩
/-- caught by the row x of this method's table; the rows ahead don't take it -/
theorem vx_catch {own name : String} {E : String} {ce : Cell} {q : Addr} (hown : s.vm.findClass own = some m.cls) (pre : List ExceptionTableEntry) (x : ExceptionTableEntry) (suf : List ExceptionTableEntry) (hsplit : c.exceptionTable.toList = pre ++ x :: suf)
    (hpass : ∀ z ∈ pre, covers z pc = false ∨ (z.catchType ≠ 0 ∧ ∃ nm : String, (Cond.classLink own z.catchType nm).before args s = true ∧ va_Nc E nm s)) (hx : covers x pc = true) (h0 : x.catchType ≠ 0)
    (hlink : (Cond.classLink own x.catchType name).before args s = true) (hcast : (Cond.castable E name).before args s = true) (hcell : H[q]? = some ce) (hv : ce.vm = .none) (hcl : s.vm.findClass E = some ce.cls)
    (kk : W p l e R s m args below meth c H locs cells slots Q (F0 m x.handlerPc ls [.ref q])) : vx_W p l e R s m args below meth c H locs cells slots Q (F0 m pc ls rest) q := by
  intro T hT X
  have hpl : e.platform.magicAccessors = ({} : Platform).magicAccessors := by rw [X.admits.platform]
  obtain ⟨c3, c4, hc3, hc4, hasg⟩ := Cond.castable_spec hcast
  cases Option.some.inj (hc3.symm.trans hcl)
  obtain ⟨c5, hc5, hcl5⟩ := Cond.classLink_spec hown hlink e.platform hpl
  cases Option.some.inj (hc4.symm.trans hc5)
  obtain ⟨vm', X', st⟩ := X.thenCaughtThrough q (g := F0 m pc ls rest) rfl (Steps.refl _) (by rw [hT]; exact hcell) (by rw [hv]; rfl) (by obtain ⟨k9, h9, -⟩ := Vm.findClass_spec hcl; exact ⟨k9, h9⟩) pre x suf hsplit
    (fun z hz => by
      rcases hpass z hz with h | ⟨hz0, nm, hl1, hn1⟩
      · exact Or.inl h
      · obtain ⟨c6, hc6, hcl6⟩ := Cond.classLink_spec hown hl1 e.platform hpl
        obtain ⟨a8, b8, h1, h2, h3⟩ := hn1
        cases Option.some.inj (h1.symm.trans hcl)
        cases Option.some.inj (h2.symm.trans hc6)
        exact Or.inr ⟨hz0, _, hcl6, h3⟩) hx (Or.inr ⟨h0, c4, hcl5, hasg⟩)
  obtain ⟨t, a1, b1⟩ := kk (T.setVm vm') hT X'
  exact ⟨t, st.trans a1, b1⟩
end Rows
section Ends
variable {p : Program} {l : Launch} {e : Env} {R : Room} {s : State} {m : MethodId} {args : Array Value} {below : List Frame} {meth : Method} {c : Code} {H : Heap} {locs : List Loc} {cells slots : Nat} {Q : State → Prop}
variable {mc ms : Nat} {free : Addr → Prop} {A0 A1 : Nat → Prop} {H0 : Heap} {a : Array Value} {ls : Array Slot} {st0 rest : List Value}
variable {Qc : Array Value → State → Outcome → State → Prop} {XC : String → State → State → Prop}
/-- what a body that may throw owes at its end -/
def vx_MQ (below : List Frame) (Qc : Array Value → State → Outcome → State → Prop) (XC : String → State → State → Prop) (a : Array Value) (s : State) (mc ms : Nat) (free : Addr → Prop) : State → Prop := fun t =>
  ∃ o, t.status = .running ∧ Ended t below o ∧ vx_Q Qc XC mc ms free a s o t
theorem vx_ret {g : JFrame} {mc ms : Nat} (k : W p l e R s m args below meth c H locs cells slots (MQ below Qc args s mc ms free) g) : W p l e R s m args below meth c H locs cells slots (vx_MQ below Qc XC args s mc ms free) g := by
  intro T hT X
  obtain ⟨t, a1, o, b1, b2, b3, b4⟩ := k T hT X
  exact ⟨t, a1, o, b1, b2, Or.inl ⟨b3, b4⟩⟩
/-- not caught here: it goes on to the caller -/
theorem vx_widen {g : JFrame} {q : Addr} {k n : Nat} (h1 : cells ≤ k) (h2 : slots ≤ n) (kk : vx_W p l e R s m args below meth c H locs k n Q g q) : vx_W p l e R s m args below meth c H locs cells slots Q g q := fun T hT X => kk T hT (stand_widen X h1 h2)
theorem vx_out {pc : Nat} {E : String} {ce : Cell} {q : Addr} {mc ms : Nat} (hout : ∀ x ∈ c.exceptionTable.toList, covers x pc = false) (hlocks : meth.locks = false) (hcell : H[q]? = some ce) (hv : ce.vm = .none) (hcl : s.vm.findClass E = some ce.cls)
    (hx : ∀ t : State, t.heap = H → s.vm.Alike t.vm → XC E s t) (hf : ∀ z ∈ locs, free z.base) (hc : cells ≤ mc) (hs : slots ≤ ms) :
    vx_W p l e R s m args below meth c H locs cells slots (vx_MQ below Qc XC args s mc ms free) (F0 m pc ls rest) q := by
  intro T hT X
  obtain ⟨st1, hrun, hend, hW, hsm⟩ := X.leaveThrown q (g := F0 m pc ls rest) rfl rfl rfl hout hlocks
  have hcell9 : (T.setFrames (.throwing q :: below)).heap[q]? = some ce := by
    show T.heap[q]? = some ce
    rw [hT]; exact hcell
  exact ⟨_, st1, .threw q, hrun, hend, Or.inr ⟨q, rfl, E, ce, locs, hx _ hT hW.alike, hcell9, hv, hcl, hW, hsm.mono hc hs, hf⟩⟩
theorem vx_frame {U : State} {k n : Nat} (h : s.sameButNew ({ U with vm := s.vm } : State) locs k n) : s.heap.size ≤ U.heap.size ∧ ∀ q : Nat, q < s.heap.size → (∀ z ∈ locs, z.base ≠ q) → U.heap[q]? = s.heap[q]? := by
  obtain ⟨-, h2, -, -, -, h6⟩ := h
  refine ⟨h2, fun q hq hz => ?_⟩
  obtain ⟨c9, e1, e2, e3, e4⟩ := h6 q _ (Array.getElem?_eq_getElem hq)
  have hs : c9.slots = (s.heap[q]).slots := Array.ext_getElem? fun i => e4 i fun hm => hz _ hm rfl
  have h9 : c9 = s.heap[q] := by
    rw [hs] at e2
    exact e2
  have e5 : U.heap[q]? = some c9 := e1
  rw [e5, h9, Array.getElem?_eq_getElem hq]
/-- the words of a throw but the four that speak of the heap -/
def vx_no (w : Cond) : Bool := decide (w ≠ .isRef (.static Bundle.tN "UNASSIGNED_STACK" Bundle.steD)) && decide (w ≠ .isRef (.static Bundle.tN "SUPPRESSED_SENTINEL" Bundle.listD)) && decide (w ≠ .laysStatic Bundle.tN "UNASSIGNED_STACK" Bundle.steD) && decide (w ≠ .laysStatic Bundle.tN "SUPPRESSED_SENTINEL" Bundle.listD)
def vx_at0 (own : String) (ic : Nat) (X : String) (names : List String) : List Cond := (Bundle.ownAtoms0 own ic X names).filter vx_no
def vx_atS (own : String) (ic : Nat) (X : String) (names : List String) : List Cond := (Bundle.ownAtoms own ic X names).filter vx_no
/-- a word that the tables alone decide, or a good one -/
def vx_ot (w : Cond) : Bool := w.onTables || goodWord w
theorem vx_ot_at {args a' : Array Value} {s U : State} {w : Cond} (hW : s.WarmedH U.vm) (hvm : s.vm = U.vm) (hg : vx_ot w = true) (h : w.before args s = true) : w.before a' U = true := by
  simp only [vx_ot, Bool.or_eq_true] at hg
  rcases hg with hg | hg
  · exact va_tabs hg hvm h
  · exact word_at hW (good_of_word hg) h
/-- a list's words: the good ones out of the method's own list, the others by premises of their own -/
theorem vx_hat {args : Array Value} {s : State} {L B : List Cond} (h1 : ∀ w ∈ L.filter goodWord, w.before args s = true) (h2 : ∀ w ∈ L.filter (fun w => !goodWord w), w ∈ B) (h3 : ∀ w ∈ B, w.before args s = true) : ∀ w ∈ L, w.before args s = true := by
  intro w hw
  by_cases g : goodWord w = true
  · exact h1 w (List.mem_filter.mpr ⟨hw, g⟩)
  · refine h3 w (h2 w (List.mem_filter.mpr ⟨hw, ?_⟩))
    show (!goodWord w) = true
    cases hgw : goodWord w
    · rfl
    · exact absurd hgw g
theorem vx_c {args : Array Value} {s : State} {w : Cond} {B : List Cond} (h : w.before args s = true) (t : ∀ w ∈ B, w.before args s = true) : ∀ w' ∈ w :: B, w'.before args s = true := fun w' h' => (List.mem_cons.mp h').elim (fun e => by rw [e]; exact h) (t w')
theorem vx_n {args : Array Value} {s : State} : ∀ w ∈ ([] : List Cond), w.before args s = true := fun _ h => nomatch h
theorem vx_own {args : Array Value} {s : State} {L : List Cond} (h1 : ∀ w ∈ L.filter vx_no, w.before args s = true)
    (hU : (Cond.isRef (.static Bundle.tN "UNASSIGNED_STACK" Bundle.steD)).before args s = true) (hN : (Cond.isRef (.static Bundle.tN "SUPPRESSED_SENTINEL" Bundle.listD)).before args s = true)
    (lU : (Cond.laysStatic Bundle.tN "UNASSIGNED_STACK" Bundle.steD).before args s = true) (lN : (Cond.laysStatic Bundle.tN "SUPPRESSED_SENTINEL" Bundle.listD).before args s = true) : ∀ w ∈ L, w.before args s = true := by
  intro w hw
  by_cases e1 : w = .isRef (.static Bundle.tN "UNASSIGNED_STACK" Bundle.steD)
  · rw [e1]; exact hU
  · by_cases e2 : w = .isRef (.static Bundle.tN "SUPPRESSED_SENTINEL" Bundle.listD)
    · rw [e2]; exact hN
    · by_cases e3 : w = .laysStatic Bundle.tN "UNASSIGNED_STACK" Bundle.steD
      · rw [e3]; exact lU
      · by_cases e4 : w = .laysStatic Bundle.tN "SUPPRESSED_SENTINEL" Bundle.listD
        · rw [e4]; exact lN
        · exact h1 w (List.mem_filter.mpr ⟨hw, by unfold vx_no; rw [decide_eq_true e1, decide_eq_true e2, decide_eq_true e3, decide_eq_true e4]; rfl⟩)
/-- where a static field lies, its class's statics cell in H -/
def vx_L (C n d : String) (A : Nat → Prop) (U : State) (H : Heap) : Prop := ∃ (c : ClassId) (k : Class) (i : Nat) (f : Field) (a : Nat) (cell : Cell), U.vm.findClass C = some c ∧ U.fieldFound? C n d = some (c, k, i, f) ∧ f.isStatic = true ∧ k.statics = some a ∧ H[a]? = some cell ∧ cell.vm.isStatics = true ∧ cell.cls = c ∧ f.slot < cell.slots.size ∧ k.staticTypes[f.slot]? = some f.type ∧ ¬ A a
theorem vx_L.moved {C n d : String} {A : Nat → Prop} {u U : State} {H : Heap} (hvm : u.vm.Alike U.vm) (h : vx_L C n d A u H) : vx_L C n d A U H := by
  obtain ⟨c, k, i, f, a, cell, h1, h2, h3, h4, h5, h6, h7, h8, h9, h10⟩ := h
  obtain ⟨k', hi', he⟩ := State.fieldFound?_setVm hvm h2
  exact ⟨c, k', i, f, a, cell, by rw [hvm.findClass]; exact h1, hi', h3, by rw [he]; exact h4, h5, h6, h7, h8, by rw [he]; exact h9, h10⟩
theorem vx_L.kept {C n d : String} {A : Nat → Prop} {U : State} {H H1 : Heap} (h : vx_L C n d A U H) (hq : ∀ a : Nat, a < H.size → ¬ A a → H1[a]? = H[a]?) : vx_L C n d A U H1 := by
  obtain ⟨c, k, i, f, a, cell, h1, h2, h3, h4, h5, h6, h7, h8, h9, h10⟩ := h
  exact ⟨c, k, i, f, a, cell, h1, h2, h3, h4, by rw [hq a (Array.getElem?_eq_some_iff.mp h5).1 h10]; exact h5, h6, h7, h8, h9, h10⟩
theorem vx_L.narrow {C n d : String} {A B : Nat → Prop} {U : State} {H : Heap} (h : vx_L C n d A U H) (hAB : ∀ q, B q → A q) : vx_L C n d B U H := by
  obtain ⟨c, k, i, f, a, cell, h1, h2, h3, h4, h5, h6, h7, h8, h9, h10⟩ := h
  exact ⟨c, k, i, f, a, cell, h1, h2, h3, h4, h5, h6, h7, h8, h9, fun z => h10 (hAB _ z)⟩
theorem vx_L.word {C n d : String} {A : Nat → Prop} {s : State} {args : Array Value} (h : vx_L C n d A s s.heap) : (Cond.laysStatic C n d).before args s = true := by
  obtain ⟨c, k, i, f, a, cell, h1, h2, h3, h4, h5, h6, h7, h8, h9, -⟩ := h
  show (Cond.laysStatic C n d).holds args s none s [] = true
  exact Cond.laysStatic_of h1 h2 h3 h4 h5 h6 h7 h8 h9
/-- .. and what it holds: null or some reference -/
def vx_Zq (C n d : String) (A : Nat → Prop) (U : State) (H : Heap) : Prop := va_Zq C n d A U H ∧ vx_L C n d A U H
theorem vx_Zq.moved {C n d : String} {A : Nat → Prop} {u U : State} {H : Heap} (hvm : u.vm.Alike U.vm) (h : vx_Zq C n d A u H) : vx_Zq C n d A U H := ⟨va_Zq.moved hvm h.1, vx_L.moved hvm h.2⟩
theorem vx_Zq.kept {C n d : String} {A : Nat → Prop} {U : State} {H H1 : Heap} (h : vx_Zq C n d A U H) (hq : ∀ a : Nat, a < H.size → ¬ A a → H1[a]? = H[a]?) : vx_Zq C n d A U H1 := ⟨va_Zq.kept h.1 hq, vx_L.kept h.2 hq⟩
theorem vx_Zq.narrow {C n d : String} {A B : Nat → Prop} {U : State} {H : Heap} (h : vx_Zq C n d A U H) (hAB : ∀ q, B q → A q) : vx_Zq C n d B U H := ⟨va_Zq.narrow h.1 hAB, vx_L.narrow h.2 hAB⟩
theorem vx_Zqof {args : Array Value} {s : State} {C n d : String} {A : Nat → Prop} (hl : (Cond.laysStatic C n d).before args s = true) (hini : (Cond.initialized C).before args s = true) (h : (Cond.isRef (.static C n d)).before args s = true) (hA : ∀ a : Nat, a < s.heap.size → ¬ A a) : vx_Zq C n d A s s.heap := by
  refine ⟨va_Zqof hl hini h hA, ?_⟩
  obtain ⟨c, k, i, f, a, cell, h1, h2, h3, h4, h5, h6, h7, h8, h9⟩ := Cond.laysStatic_spec hl
  exact ⟨c, k, i, f, a, cell, h1, h2, h3, h4, h5, h6, h7, h8, h9, hA a (Array.getElem?_eq_some_iff.mp h5).1⟩
theorem vx_isRef {C n d : String} {v : Value} {A : Nat → Prop} {s : State} {args : Array Value} (h : va_Z C n d v A s s.heap) (hv : v.isRef = true) : (Cond.isRef (.static C n d)).before args s = true := by
  obtain ⟨cf, kf, fi, f, a, cell, h1, h2, h3, h4, h5, h6, h7, -⟩ := h
  have he : (Term.static C n d).eval args s none [] s = some v := by
    simp [Term.eval, State.fieldNamed?, h1, h2, h4, h5, h6, h7]
  simp only [Cond.before, Cond.holds, Cond.value, he]
  cases v <;> simp_all [Value.isRef]
theorem vx_isRefq {C n d : String} {A : Nat → Prop} {s : State} {args : Array Value} (h : va_Zq C n d A s s.heap) : (Cond.isRef (.static C n d)).before args s = true := by
  rcases h with h | ⟨t, h⟩
  · exact vx_isRef h rfl
  · exact vx_isRef h rfl
/-- the same frame, seen from here: as if the method were called anew in this heap -/
theorem vx_rebase {T : State} (X : Stand p l e R s m args below meth c T locs cells slots) {R' : Room} (hf : R'.frames ≤ R.frames) (hl : R'.locals ≤ R.locals) (hc : cells + R'.cells ≤ R.cells) (hs : slots + R'.slots ≤ R.slots) :
    Stand p l e R' ((T.setVm s.vm).setFrames (.invoking m args :: below)) m args below meth c T [] 0 0 := by
  have htop : (T.setVm s.vm).topJava?.isSome := X.here.top
  have hF : ((T.setVm s.vm).setFrames (.invoking m args :: below)).frames = .invoking m args :: below := State.frames_setFrames _ (State.cur_lt_of_top htop)
  obtain ⟨g₀, hg0⟩ := Option.isSome_iff_exists.mp htop
  obtain ⟨r, hr⟩ := State.topJava?_eq_some.mp hg0
  have hl9 : e.platform.stackLimits (T.setVm s.vm).me = e.platform.stackLimits s.me := X.limits
  have hb9 : (T.setVm s.vm).me.stackBytes = s.me.stackBytes := X.bytes
  refine ⟨X.admits, X.cas, X.clock, hF, ?_, X.hears, X.method, X.code, X.here, X.tail, X.warmed, ?_, ?_, ?_⟩
  · have h := X.room
    have hU : ((T.setVm s.vm).setFrames (.invoking m args :: below)).localsInUse = s.localsInUse := by
      rw [State.localsInUse_invoking hF (meth := meth) (c := c) X.method X.code, State.localsInUse_invoking X.frames X.method X.code]
    simp only [State.hasRoom, Bool.and_eq_true, decide_eq_true_eq] at h ⊢
    obtain ⟨⟨⟨⟨h1, h2, h3, h4, h5, h6⟩, h7⟩, h8⟩, h9⟩ := h
    rw [X.frames, List.length_cons] at h2 h3
    have q1 := X.heapSize
    have q2 := X.used
    simp only [hF, hU, List.length_cons, State.stackLimits_setFrames, State.stackBytes_setFrames, hl9, hb9]
    refine ⟨⟨⟨⟨by omega, by omega, by omega, by omega, by omega, h6⟩, ?_⟩, ?_⟩, X.book⟩
    · show T.heap.size + R'.cells ≤ e.platform.maxCells
      omega
    · show T.slotsUsed + R'.slots ≤ e.platform.maxSlots
      omega
  · rw [State.stackLimits_setFrames]; rfl
  · rw [State.stackBytes_setFrames]; rfl
  · refine ⟨?_, Nat.le_refl _, Nat.le_refl _, ?_, ?_, fun a c9 h9 => ⟨c9, h9, rfl, rfl, fun _ _ => rfl⟩⟩
    · obtain ⟨t, ht, -⟩ := State.frames_cons hr
      show T.setVm s.vm = { ((T.setVm s.vm).setFrames (.invoking m args :: below)).setFrames (T.setVm s.vm).frames with heap := T.heap, slotsUsed := T.slotsUsed }
      rw [State.setFrames_setFrames, State.setFrames_self ht]
      rfl
    · show T.slotsUsed = T.slotsUsed + ((T.heap.toList.drop T.heap.size).map (·.slots.size)).sum
      rw [List.drop_eq_nil_of_le (Nat.le_of_eq Array.length_toList)]
      rfl
    · show ((T.heap.toList.drop T.heap.size).map (·.slots.size)).sum ≤ 0
      rw [List.drop_eq_nil_of_le (Nat.le_of_eq Array.length_toList)]
      exact Nat.le_refl _
/-- 'throw new E()': new; dup; invokespecial; athrow -/
theorem vx_throw0 {cc : ByteArray} {pc : Nat} (hexec : p.tables.exec = Jvm.exec) (hb : c.code = cc) (hl : l.stackTraces = false) {own cls : String} {names : List String} {ik ic mc ms : Nat} {A : Nat → Prop}
    (hown : s.vm.findClass own = some m.cls) (hcls : Bundle.fit cls = true) (hnames : ∀ n ∈ names, Bundle.fit n = true)
    (hk : (Cond.classLink own ik cls).before args s = true) (hini : (Cond.initialized cls).before args s = true) (hat : ∀ w ∈ vx_at0 own ic cls names, w.before args s = true)
    (hgood : ∀ w ∈ Cond.classLink own ik cls :: Cond.initialized cls :: vx_at0 own ic cls names, vx_ot w = true)
    (hU : vx_Zq Bundle.tN "UNASSIGNED_STACK" Bundle.steD A s s.heap) (hN : vx_Zq Bundle.tN "SUPPRESSED_SENTINEL" Bundle.listD A s s.heap) (hS : va_S A s.heap H locs) (hsize : ls.size = c.maxLocals)
    (d0 : decode cc pc = .ok (.new ik, 3)) (d3 : decode cc (pc + 3) = .ok (.dup, 1)) (d4 : decode cc (pc + 4) = .ok (.invokespecial ic, 3)) (d7 : decode cc (pc + 7) = .ok (.athrow, 1))
    (hout : ∀ x ∈ c.exceptionTable.toList, covers x (pc + 7) = false)
    (hRframes : names.length + 3 < R.frames) (hRlocals : (rest.map fun v => v.category).sum + (13 * (names.length + 1) + 42) ≤ R.locals) (hRcells : cells + 1 ≤ R.cells) (hRslots : slots + 6 ≤ R.slots) (hlocks : meth.locks = false)
    (hx : ∀ t : State, s.vm.Alike t.vm → H.size ≤ t.heap.size → (∀ q : Nat, q < H.size → t.heap[q]? = H[q]?) → XC cls s t)
    (hf : ∀ z ∈ locs, free z.base) (hc : cells + 1 ≤ mc) (hs : slots + 6 ≤ ms) :
    W p l e R s m args below meth c H locs cells slots (vx_MQ below Qc XC args s mc ms free) (F0 m pc ls rest) := by
  intro T hT X
  have htr : e.platform.stackTraces = false := (show e.platform.stackTraces = l.stackTraces by rw [X.admits.platform]).trans hl
  have Y := vx_rebase X (R' := { frames := R.frames, locals := R.locals, cells := 1, slots := 6 }) (Nat.le_refl _) (Nat.le_refl _) hRcells hRslots
  obtain ⟨s', hA⟩ : ∃ z, z = (T.setVm s.vm).setFrames (.invoking m args :: below) := ⟨_, rfl⟩
  rw [← hA] at Y
  have hvm : s'.vm = s.vm := by rw [hA]; rfl
  have hhp : s'.heap = H := by rw [hA]; exact hT
  have hW0 : s.WarmedH s'.vm := by rw [hvm]; exact State.WarmedH.refl s
  have hat' : ∀ w ∈ vx_at0 own ic cls names, w.before args s' = true := fun w hw => vx_ot_at hW0 hvm.symm (hgood w (List.mem_cons_of_mem _ (List.mem_cons_of_mem _ hw))) (hat w hw)
  have hk' : (Cond.classLink own ik cls).before args s' = true := vx_ot_at hW0 hvm.symm (hgood _ List.mem_cons_self) hk
  have hini' : (Cond.initialized cls).before args s' = true := vx_ot_at hW0 hvm.symm (hgood _ (List.mem_cons_of_mem _ List.mem_cons_self)) hini
  have hU' : vx_Zq Bundle.tN "UNASSIGNED_STACK" Bundle.steD A s' s'.heap := by rw [hhp]; exact vx_Zq.moved hW0.alike (hU.kept hS.2.1)
  have hN' : vx_Zq Bundle.tN "SUPPRESSED_SENTINEL" Bundle.listD A s' s'.heap := by rw [hhp]; exact vx_Zq.moved hW0.alike (hN.kept hS.2.1)
  have h : ∀ w ∈ Bundle.ownAtoms0 own ic cls names, w.before args s' = true := vx_own hat' (vx_isRefq hU'.1) (vx_isRefq hN'.1) hU'.2.word hN'.2.word
  have hown' : s'.vm.findClass own = some m.cls := by rw [hvm]; exact hown
  have hins : (Cond.instantiable cls 6).before args s' = true := h _ (by simp [Bundle.ownAtoms0])
  obtain ⟨vm₁, cX, kX, hfX, hkX, -, -, X₁, st1⟩ := Y.newCold hexec (own := own) (C := cls) (index := ik) (n := 6) hown' hk' hins hini'
    (g := F0 m pc ls rest) rfl (by rw [hb]; exact d0) (Nat.le_refl _) (Nat.le_refl _)
  generalize hT1 : (T.setVm vm₁).pushCell { cls := cX, slots := kX.instanceTypes.map defaultValue, vm := .none } = T1 at X₁ st1
  have hcat : (Value.ref T.heap.size).category = 1 := rfl
  have hcellA : T1.heap[T.heap.size]? = some (freshCell cX kX) := by rw [← hT1]; exact State.heap_pushCell_size _ _
  have d3' : decode c.code (pc + 3) = .ok (.dup, 1) := by rw [hb]; exact d3
  obtain ⟨U, hsteps, hrun, hend, hW, hsame, ce, hce, hO⟩ := X₁.ctorThrow0 hexec htr (own := own) (cls := cls) (names := names) (ic := ic) hown' hcls hnames h (fun x hx => nomatch hx) hfX hkX hcellA (by rw [hhp, hT]; exact Nat.le_refl _)
    (g := { method := m, pc := pc + 4, locals := ls, stack := .ref T.heap.size :: .ref T.heap.size :: rest, locked := none }) rfl hsize rfl rfl (rest := rest) rfl
    (by rw [hb]; exact d4) (by rw [hb]; exact d7) hout hRframes (by simp only [List.map_cons, List.sum_cons, hcat]; omega) hlocks
  obtain ⟨f1, f2⟩ := vx_frame hsame
  rw [hhp] at f1 f2
  have hWs : s.WarmedH U.vm := State.WarmedH.trans hW0 hW
  have hcl : s.vm.findClass cls = some ce.cls := by
    have h9 := hO.cls
    rw [hvm] at h9
    exact h9
  have hall : s.sameButNew ({ U with vm := s.vm } : State) locs mc ms := by
    subst hA
    obtain ⟨e1, e2⟩ := hsame
    rw [State.setFrames_setFrames] at e1
    have h2 : (T.setVm s.vm).sameButNew ({ U with vm := s.vm } : State) [] (0 + 1) (0 + 6) := ⟨e1, e2⟩
    have h3 := X.same.trans h2
    rw [List.append_nil] at h3
    exact h3.mono hc hs
  refine ⟨U, ?_, .threw T.heap.size, hrun, hend, Or.inr ⟨T.heap.size, rfl, cls, ce, locs, hx U hWs.alike f1 (fun q hq => f2 q hq (fun z hz => nomatch hz)), hce, hO.vm, hcl, hWs, hall, hf⟩⟩
  refine st1 _ ?_
  show Steps p.tables e below (T1.setTop { method := m, pc := pc + 3, locals := ls, stack := .ref T.heap.size :: rest, locked := none }) _
  jvm_step X₁.here [X₁.here.top, hexec, d3', Value.category]
  exact hsteps
/-- 'throw new E("text")': new; dup; ldc; invokespecial; athrow -/
theorem vx_throwS {cc : ByteArray} {pc : Nat} (hexec : p.tables.exec = Jvm.exec) (hb : c.code = cc) (hl : l.stackTraces = false) {own cls text : String} {names : List String} {ik is ic mc ms sa : Nat} {A : Nat → Prop}
    (hown : s.vm.findClass own = some m.cls) (hcls : Bundle.fit cls = true) (hnames : ∀ n ∈ names, Bundle.fit n = true)
    (hk : (Cond.classLink own ik cls).before args s = true) (hini : (Cond.initialized cls).before args s = true) (hstr : vk_R own is text sa s) (hat : ∀ w ∈ vx_atS own ic cls names, w.before args s = true)
    (hgood : ∀ w ∈ Cond.classLink own ik cls :: Cond.initialized cls :: vx_atS own ic cls names, vx_ot w = true)
    (hU : vx_Zq Bundle.tN "UNASSIGNED_STACK" Bundle.steD A s s.heap) (hN : vx_Zq Bundle.tN "SUPPRESSED_SENTINEL" Bundle.listD A s s.heap) (hS : va_S A s.heap H locs) (hsize : ls.size = c.maxLocals)
    (d0 : decode cc pc = .ok (.new ik, 3)) (d3 : decode cc (pc + 3) = .ok (.dup, 1)) (d4 : decode cc (pc + 4) = .ok (.ldc is, 2)) (d6 : decode cc (pc + 6) = .ok (.invokespecial ic, 3)) (d9 : decode cc (pc + 9) = .ok (.athrow, 1))
    (hout : ∀ x ∈ c.exceptionTable.toList, covers x (pc + 9) = false)
    (hRframes : names.length + 3 < R.frames) (hRlocals : (rest.map fun v => v.category).sum + (13 * (names.length + 1) + 43) ≤ R.locals) (hRcells : cells + 1 ≤ R.cells) (hRslots : slots + 6 ≤ R.slots) (hlocks : meth.locks = false)
    (hx : ∀ t : State, s.vm.Alike t.vm → H.size ≤ t.heap.size → (∀ q : Nat, q < H.size → t.heap[q]? = H[q]?) → XC cls s t)
    (hf : ∀ z ∈ locs, free z.base) (hc : cells + 1 ≤ mc) (hs : slots + 6 ≤ ms) :
    W p l e R s m args below meth c H locs cells slots (vx_MQ below Qc XC args s mc ms free) (F0 m pc ls rest) := by
  intro T hT X
  have htr : e.platform.stackTraces = false := (show e.platform.stackTraces = l.stackTraces by rw [X.admits.platform]).trans hl
  have Y := vx_rebase X (R' := { frames := R.frames, locals := R.locals, cells := 1, slots := 6 }) (Nat.le_refl _) (Nat.le_refl _) hRcells hRslots
  obtain ⟨s', hA⟩ : ∃ z, z = (T.setVm s.vm).setFrames (.invoking m args :: below) := ⟨_, rfl⟩
  rw [← hA] at Y
  have hvm : s'.vm = s.vm := by rw [hA]; rfl
  have hhp : s'.heap = H := by rw [hA]; exact hT
  have hW0 : s.WarmedH s'.vm := by rw [hvm]; exact State.WarmedH.refl s
  have hat' : ∀ w ∈ vx_atS own ic cls names, w.before args s' = true := fun w hw => vx_ot_at hW0 hvm.symm (hgood w (List.mem_cons_of_mem _ (List.mem_cons_of_mem _ hw))) (hat w hw)
  have hk' : (Cond.classLink own ik cls).before args s' = true := vx_ot_at hW0 hvm.symm (hgood _ List.mem_cons_self) hk
  have hini' : (Cond.initialized cls).before args s' = true := vx_ot_at hW0 hvm.symm (hgood _ (List.mem_cons_of_mem _ List.mem_cons_self)) hini
  have hU' : vx_Zq Bundle.tN "UNASSIGNED_STACK" Bundle.steD A s' s'.heap := by rw [hhp]; exact vx_Zq.moved hW0.alike (hU.kept hS.2.1)
  have hN' : vx_Zq Bundle.tN "SUPPRESSED_SENTINEL" Bundle.listD A s' s'.heap := by rw [hhp]; exact vx_Zq.moved hW0.alike (hN.kept hS.2.1)
  have h : ∀ w ∈ Bundle.ownAtoms own ic cls names, w.before args s' = true := vx_own hat' (vx_isRefq hU'.1) (vx_isRefq hN'.1) hU'.2.word hN'.2.word
  have hown' : s'.vm.findClass own = some m.cls := by rw [hvm]; exact hown
  have hins : (Cond.instantiable cls 6).before args s' = true := h _ (by simp [Bundle.ownAtoms])
  obtain ⟨vm₁, cX, kX, hfX, hkX, -, -, X₁, st1⟩ := Y.newCold hexec (own := own) (C := cls) (index := ik) (n := 6) hown' hk' hins hini'
    (g := F0 m pc ls rest) rfl (by rw [hb]; exact d0) (Nat.le_refl _) (Nat.le_refl _)
  generalize hT1 : (T.setVm vm₁).pushCell { cls := cX, slots := kX.instanceTypes.map defaultValue, vm := .none } = T1 at X₁ st1
  have hcat : (Value.ref T.heap.size).category = 1 := rfl
  have hcellA : T1.heap[T.heap.size]? = some (freshCell cX kX) := by rw [← hT1]; exact State.heap_pushCell_size _ _
  have d3' : decode c.code (pc + 3) = .ok (.dup, 1) := by rw [hb]; exact d3
  have d4' : decode c.code (pc + 4) = .ok (.ldc is, 2) := by rw [hb]; exact d4
  have hstr' : vk_R own is text sa s' := vk_R.warm hW0 hstr
  obtain ⟨U, hsteps, hrun, hend, hW, hsame, ce, hce, hO⟩ := X₁.ctorThrowS hexec htr (own := own) (cls := cls) (names := names) (ic := ic) hown' hcls hnames h (fun x hx => nomatch hx) hfX hkX hcellA (by rw [hhp, hT]; exact Nat.le_refl _) (msg := .ref sa) rfl
    (g := { method := m, pc := pc + 6, locals := ls, stack := .ref sa :: .ref T.heap.size :: .ref T.heap.size :: rest, locked := none }) rfl hsize rfl rfl (rest := rest) rfl
    (by rw [hb]; exact d6) (by rw [hb]; exact d9) hout hRframes (by simp only [List.map_cons, List.sum_cons, hcat]; omega) hlocks
  obtain ⟨f1, f2⟩ := vx_frame hsame
  rw [hhp] at f1 f2
  have hWs : s.WarmedH U.vm := State.WarmedH.trans hW0 hW
  have hcl : s.vm.findClass cls = some ce.cls := by
    have h9 := hO.cls
    rw [hvm] at h9
    exact h9
  have hall : s.sameButNew ({ U with vm := s.vm } : State) locs mc ms := by
    subst hA
    obtain ⟨e1, e2⟩ := hsame
    rw [State.setFrames_setFrames] at e1
    have h2 : (T.setVm s.vm).sameButNew ({ U with vm := s.vm } : State) [] (0 + 1) (0 + 6) := ⟨e1, e2⟩
    have h3 := X.same.trans h2
    rw [List.append_nil] at h3
    exact h3.mono hc hs
  refine ⟨U, ?_, .threw T.heap.size, hrun, hend, Or.inr ⟨T.heap.size, rfl, cls, ce, locs, hx U hWs.alike f1 (fun q hq => f2 q hq (fun z hz => nomatch hz)), hce, hO.vm, hcl, hWs, hall, hf⟩⟩
  refine st1 _ ?_
  show Steps p.tables e below (T1.setTop { method := m, pc := pc + 3, locals := ls, stack := .ref T.heap.size :: rest, locked := none }) _
  jvm_step X₁.here [X₁.here.top, hexec, d3', Value.category]
  exact X₁.ldcString hexec (own := own) (text := text) (index := is) (a := sa) hown' hstr'.1 hstr'.2
    (g := { method := m, pc := pc + 4, locals := ls, stack := .ref T.heap.size :: .ref T.heap.size :: rest, locked := none }) rfl d4' _ hsteps
/-- 'throw new E("text")', the text by a wide index -/
theorem vx_throwSW {cc : ByteArray} {pc : Nat} (hexec : p.tables.exec = Jvm.exec) (hb : c.code = cc) (hl : l.stackTraces = false) {own cls text : String} {names : List String} {ik is ic mc ms sa : Nat} {A : Nat → Prop}
    (hown : s.vm.findClass own = some m.cls) (hcls : Bundle.fit cls = true) (hnames : ∀ n ∈ names, Bundle.fit n = true)
    (hk : (Cond.classLink own ik cls).before args s = true) (hini : (Cond.initialized cls).before args s = true) (hstr : vk_R own is text sa s) (hat : ∀ w ∈ vx_atS own ic cls names, w.before args s = true)
    (hgood : ∀ w ∈ Cond.classLink own ik cls :: Cond.initialized cls :: vx_atS own ic cls names, vx_ot w = true)
    (hU : vx_Zq Bundle.tN "UNASSIGNED_STACK" Bundle.steD A s s.heap) (hN : vx_Zq Bundle.tN "SUPPRESSED_SENTINEL" Bundle.listD A s s.heap) (hS : va_S A s.heap H locs) (hsize : ls.size = c.maxLocals)
    (d0 : decode cc pc = .ok (.new ik, 3)) (d3 : decode cc (pc + 3) = .ok (.dup, 1)) (d4 : decode cc (pc + 4) = .ok (.ldc_w is, 3)) (d7 : decode cc (pc + 7) = .ok (.invokespecial ic, 3)) (d10 : decode cc (pc + 10) = .ok (.athrow, 1))
    (hout : ∀ x ∈ c.exceptionTable.toList, covers x (pc + 10) = false)
    (hRframes : names.length + 3 < R.frames) (hRlocals : (rest.map fun v => v.category).sum + (13 * (names.length + 1) + 43) ≤ R.locals) (hRcells : cells + 1 ≤ R.cells) (hRslots : slots + 6 ≤ R.slots) (hlocks : meth.locks = false)
    (hx : ∀ t : State, s.vm.Alike t.vm → H.size ≤ t.heap.size → (∀ q : Nat, q < H.size → t.heap[q]? = H[q]?) → XC cls s t)
    (hf : ∀ z ∈ locs, free z.base) (hc : cells + 1 ≤ mc) (hs : slots + 6 ≤ ms) :
    W p l e R s m args below meth c H locs cells slots (vx_MQ below Qc XC args s mc ms free) (F0 m pc ls rest) := by
  intro T hT X
  have htr : e.platform.stackTraces = false := (show e.platform.stackTraces = l.stackTraces by rw [X.admits.platform]).trans hl
  have Y := vx_rebase X (R' := { frames := R.frames, locals := R.locals, cells := 1, slots := 6 }) (Nat.le_refl _) (Nat.le_refl _) hRcells hRslots
  obtain ⟨s', hA⟩ : ∃ z, z = (T.setVm s.vm).setFrames (.invoking m args :: below) := ⟨_, rfl⟩
  rw [← hA] at Y
  have hvm : s'.vm = s.vm := by rw [hA]; rfl
  have hhp : s'.heap = H := by rw [hA]; exact hT
  have hW0 : s.WarmedH s'.vm := by rw [hvm]; exact State.WarmedH.refl s
  have hat' : ∀ w ∈ vx_atS own ic cls names, w.before args s' = true := fun w hw => vx_ot_at hW0 hvm.symm (hgood w (List.mem_cons_of_mem _ (List.mem_cons_of_mem _ hw))) (hat w hw)
  have hk' : (Cond.classLink own ik cls).before args s' = true := vx_ot_at hW0 hvm.symm (hgood _ List.mem_cons_self) hk
  have hini' : (Cond.initialized cls).before args s' = true := vx_ot_at hW0 hvm.symm (hgood _ (List.mem_cons_of_mem _ List.mem_cons_self)) hini
  have hU' : vx_Zq Bundle.tN "UNASSIGNED_STACK" Bundle.steD A s' s'.heap := by rw [hhp]; exact vx_Zq.moved hW0.alike (hU.kept hS.2.1)
  have hN' : vx_Zq Bundle.tN "SUPPRESSED_SENTINEL" Bundle.listD A s' s'.heap := by rw [hhp]; exact vx_Zq.moved hW0.alike (hN.kept hS.2.1)
  have h : ∀ w ∈ Bundle.ownAtoms own ic cls names, w.before args s' = true := vx_own hat' (vx_isRefq hU'.1) (vx_isRefq hN'.1) hU'.2.word hN'.2.word
  have hown' : s'.vm.findClass own = some m.cls := by rw [hvm]; exact hown
  have hins : (Cond.instantiable cls 6).before args s' = true := h _ (by simp [Bundle.ownAtoms])
  obtain ⟨vm₁, cX, kX, hfX, hkX, -, -, X₁, st1⟩ := Y.newCold hexec (own := own) (C := cls) (index := ik) (n := 6) hown' hk' hins hini'
    (g := F0 m pc ls rest) rfl (by rw [hb]; exact d0) (Nat.le_refl _) (Nat.le_refl _)
  generalize hT1 : (T.setVm vm₁).pushCell { cls := cX, slots := kX.instanceTypes.map defaultValue, vm := .none } = T1 at X₁ st1
  have hcat : (Value.ref T.heap.size).category = 1 := rfl
  have hcellA : T1.heap[T.heap.size]? = some (freshCell cX kX) := by rw [← hT1]; exact State.heap_pushCell_size _ _
  have d3' : decode c.code (pc + 3) = .ok (.dup, 1) := by rw [hb]; exact d3
  have d4' : decode c.code (pc + 4) = .ok (.ldc_w is, 3) := by rw [hb]; exact d4
  have hstr' : vk_R own is text sa s' := vk_R.warm hW0 hstr
  obtain ⟨U, hsteps, hrun, hend, hW, hsame, ce, hce, hO⟩ := X₁.ctorThrowS hexec htr (own := own) (cls := cls) (names := names) (ic := ic) hown' hcls hnames h (fun x hx => nomatch hx) hfX hkX hcellA (by rw [hhp, hT]; exact Nat.le_refl _) (msg := .ref sa) rfl
    (g := { method := m, pc := pc + 7, locals := ls, stack := .ref sa :: .ref T.heap.size :: .ref T.heap.size :: rest, locked := none }) rfl hsize rfl rfl (rest := rest) rfl
    (by rw [hb]; exact d7) (by rw [hb]; exact d10) hout hRframes (by simp only [List.map_cons, List.sum_cons, hcat]; omega) hlocks
  obtain ⟨f1, f2⟩ := vx_frame hsame
  rw [hhp] at f1 f2
  have hWs : s.WarmedH U.vm := State.WarmedH.trans hW0 hW
  have hcl : s.vm.findClass cls = some ce.cls := by
    have h9 := hO.cls
    rw [hvm] at h9
    exact h9
  have hall : s.sameButNew ({ U with vm := s.vm } : State) locs mc ms := by
    subst hA
    obtain ⟨e1, e2⟩ := hsame
    rw [State.setFrames_setFrames] at e1
    have h2 : (T.setVm s.vm).sameButNew ({ U with vm := s.vm } : State) [] (0 + 1) (0 + 6) := ⟨e1, e2⟩
    have h3 := X.same.trans h2
    rw [List.append_nil] at h3
    exact h3.mono hc hs
  refine ⟨U, ?_, .threw T.heap.size, hrun, hend, Or.inr ⟨T.heap.size, rfl, cls, ce, locs, hx U hWs.alike f1 (fun q hq => f2 q hq (fun z hz => nomatch hz)), hce, hO.vm, hcl, hWs, hall, hf⟩⟩
  refine st1 _ ?_
  show Steps p.tables e below (T1.setTop { method := m, pc := pc + 3, locals := ls, stack := .ref T.heap.size :: rest, locked := none }) _
  jvm_step X₁.here [X₁.here.top, hexec, d3', Value.category]
  exact X₁.ldcStringW hexec (own := own) (text := text) (index := is) (a := sa) hown' hstr'.1 hstr'.2
    (g := { method := m, pc := pc + 4, locals := ls, stack := .ref T.heap.size :: .ref T.heap.size :: rest, locked := none }) rfl d4' _ hsteps
end Ends
section Bodies
variable {l : Launch}
theorem vx_ofW {y : MethodName} {ws ws' : List Cond} {rm : Room} {Pc : Array Value → State → Prop} {Qc : Array Value → State → Outcome → State → Prop} {XC : String → State → State → Prop} {mc ms : Nat} {free : Addr → Prop} {cc : ByteArray} {maxL : Nat} {ret : Option FieldType}
    (hy : plainName y.cls = true) (hw : ws = Cond.code y cc maxL ret :: ws')
    (body : ∀ p e s m args below meth c s₁, BodyLoose p l y (headSpec ws rm) cc maxL ret e s m args below meth c s₁ → c.maxLocals = maxL → (∀ x ∈ c.exceptionTable.toList, False) → Pc args s →
      W p l e (headSpec ws rm).room s m args below meth c s.heap [] 0 0 (vx_MQ below Qc XC args s mc ms free) (entryFrame m args maxL)) : vx_Met l y ws rm Pc Qc XC mc ms free := by
  refine MetFree.of_bodyS (code := cc) (maxLocals := maxL) (ret := ret) hy ?_ ?_
  · intro args s m h hn
    obtain ⟨meth, c, h1, h2, h3, h4, h5, h6, -, -⟩ := Cond.code_spec hn (atoms_spec (ws := ws) h _ (by rw [hw]; exact List.mem_cons_self))
    exact ⟨meth, c, h1, h2, h3, h4, h5, h6⟩
  · intro p e s m args below meth c s₁ B hml hP _
    have hh0 : s₁.heap = s.heap := by rw [B.state]; rfl
    have ht : ∀ x ∈ c.exceptionTable.toList, False := by
      obtain ⟨meth9, c9, h1, h2, -, -, -, -, h7, -⟩ := Cond.code_spec B.named (atoms_spec (ws := ws) B.pre _ (by rw [hw]; exact List.mem_cons_self))
      cases Option.some.inj (h1.symm.trans B.method)
      cases Option.some.inj (h2.symm.trans (Stand.of_body B).code)
      intro x hx
      rw [Array.isEmpty_iff.mp h7] at hx
      cases hx
    obtain ⟨t, a1, o, b1, b2, b3⟩ := body p e s m args below meth c s₁ B hml ht hP s₁ hh0 (Stand.of_body B)
    exact ⟨t, o, a1, b1, b2, b3⟩
/-- the table of a body with handlers -/
theorem vx_table {p : Program} {x y : MethodName} {S : Spec} {cc bytes : ByteArray} {maxL maxL' : Nat} {ret ret' : Option FieldType} {e : Env} {s s₁ : State} {m : MethodId} {args : Array Value} {below : List Frame} {meth : Method} {c : Code} {hh : List (Nat × Nat × Nat × Nat)}
    (B : BodyLoose p l y S cc maxL ret e s m args below meth c s₁) (h : (Cond.codeWith y bytes maxL' ret' hh).before args s = true) : c.exceptionTable.toList = tableOf hh := by
  obtain ⟨m9, meth9, c9, hn9, h1, h2, -, -, h6, -⟩ := Cond.codeWith_spec h
  cases Option.some.inj (hn9.symm.trans B.named)
  cases Option.some.inj (h1.symm.trans B.method)
  cases Option.some.inj (h2.symm.trans (Stand.of_body B).code)
  rw [← h6, table_eq]
end Bodies
end VXA
/-! ===== END ===== -/
/-! ===== BEGIN a static call of a method with an exception table ===== -/
section VXS
variable {p : Program} {l : Launch} {e : Env} {R : Room} {s : State} {m : MethodId} {args : Array Value} {below : List Frame} {meth : Method} {c : Code} {T : State} {H : Heap} {locs : List Loc} {cells slots : Nat}
abbrev vx_CSW (R : Room) (s : State) (args : Array Value) (own : String) (index : Nat) (y : MethodName) (bytes : ByteArray) (maxL : Nat) (ret : Option FieldType) (hh : List (Nat × Nat × Nat × Nat)) (ws : List Cond) (rm : Room) (mc ms n : Nat) : Prop :=
  (rm.cells = mc ∧ rm.slots = ms ∧ rm.frames + 1 ≤ R.frames ∧ 8 + (maxL + 11) + rm.locals ≤ R.locals ∧ (∀ w ∈ ws, ∀ (a' : Array Value) (U : State), s.WarmedH U.vm → w.before a' U = true) ∧ Cond.codeWith y bytes maxL ret hh ∈ ws) ∧
  (Cond.codeWith y bytes maxL ret hh).before args s = true ∧ (Cond.initialized y.cls).before args s = true ∧ (y.cls ≠ "java/lang/invoke/MethodHandle" ∧ y.cls ≠ "java/lang/invoke/VarHandle") ∧
  (∀ sig, parseMethodDescriptor y.desc = some sig → n = sig.parameters.length) ∧ (Cond.methodLink own index y).before args s = true ∧ (Cond.static y).before args s = true
theorem vx_cwSW {own : String} {index maxL mc ms : Nat} {y : MethodName} {bytes : ByteArray} {ret : Option FieldType} {hh : List (Nat × Nat × Nat × Nat)} {Ts ws ws' : List Cond} {rm : Room} (n : Nat) (ht : ∀ w ∈ Ts, w.before args s = true) (hT : GoodIn Ts (va_wsS own index y ws)) (hw : ws = Cond.codeWith y bytes maxL ret hh :: ws') (hrc : rm.cells = mc) (hrs : rm.slots = ms)
    (hd : y.cls ≠ "java/lang/invoke/MethodHandle" ∧ y.cls ≠ "java/lang/invoke/VarHandle" ∧ (parseMethodDescriptor y.desc).map (fun d => d.parameters.length) = some n) (hR : rm.frames + 1 ≤ R.frames ∧ 8 + (maxL + 11) + rm.locals ≤ R.locals) :
    vx_CSW R s args own index y bytes maxL ret hh ws rm mc ms n := by
  have ok : ∀ w ∈ va_wsS own index y ws, w.before args s = true := fun w h => ht w (hT w h).1
  have hG : GoodIn Ts ws := fun w h => hT w (by unfold va_wsS; exact List.mem_append_right _ h)
  have hc : Cond.codeWith y bytes maxL ret hh ∈ ws := by rw [hw]; exact List.mem_cons_self
  refine ⟨⟨hrc, hrs, hR.1, hR.2, pay_in ht hG, hc⟩, ht _ (hG _ hc).1, ok _ (by simp [va_wsS]), ⟨hd.1, hd.2.1⟩, fun sig h => ?_, ok _ (by simp [va_wsS]), ok _ (by simp [va_wsS])⟩
  have h2 := hd.2.2
  rw [h] at h2
  exact (Option.some.inj h2).symm
theorem vx_callSW (X : Stand p l e R s m args below meth c T locs cells slots) (hexec : p.tables.exec = Jvm.exec) {own : String} {index : Nat} {y : MethodName} {bytes : ByteArray} {maxL : Nat} {ret : Option FieldType} {hh : List (Nat × Nat × Nat × Nat)}
    (hown : s.vm.findClass own = some m.cls) (hlink : (Cond.methodLink own index y).before args s = true) (hstat : (Cond.static y).before args s = true) (hinit : (Cond.initialized y.cls).before args s = true)
    (hcode : (Cond.codeWith y bytes maxL ret hh).before args s = true) (hy : y.cls ≠ "java/lang/invoke/MethodHandle" ∧ y.cls ≠ "java/lang/invoke/VarHandle")
    {W9 : Nat} {Pre : Pt → Array Value → Prop} {Post : Pt → Array Value → Option Value → Pt → Prop} (hK : Back l R p e below s args y 3 W9 Pre Post)
    {g : JFrame} (hg : g.method = m) (hsize : g.locals.size = c.maxLocals) {argsL rest : List Value} (hlen : ∀ sig, parseMethodDescriptor y.desc = some sig → argsL.length = sig.parameters.length)
    (hstack : g.stack = argsL.reverse ++ rest) (hW : 2 * g.monitorRoom + (rest.map fun v => v.category).sum ≤ W9) (hdg : decode c.code g.pc = .ok (.invokestatic index, 3))
    (hpre : ∀ vm₁, s.WarmedH vm₁ → Pre ⟨T.setVm vm₁, locs, cells, slots⟩ argsL.toArray) :
    ∃ (v : Option Value) (vm₁ : Vm) (B : Pt), s.WarmedH vm₁ ∧ Stand p l e R s m args below meth c B.U B.locs B.cells B.slots ∧ Post ⟨T.setVm vm₁, locs, cells, slots⟩ argsL.toArray v B ∧
      ∀ target, Steps p.tables e below (B.U.setTop { g with pc := g.pc + 3, stack := v.toList ++ rest }) target → Steps p.tables e below (T.setTop g) target := by
  obtain ⟨mk, methM, cM, hnamed, hmethM, -, -, -, -, -, -, hsigM⟩ := Cond.codeWith_spec hcode
  have hstatic : methM.isStatic = true := Cond.static_spec hnamed hmethM hstat
  obtain ⟨kP, hkP, -⟩ := className_of_methodNamed hnamed
  have hinitP : kP.init = .initialized := Cond.initialized_spec (findClass_of_methodNamed hnamed) hkP hinit
  obtain ⟨vm₁, X₁, hstep₁⟩ := X.invokestatic hexec hown hlink hnamed hmethM hstatic hkP hinitP hy (g := g) hg (argsL := argsL) (rest := rest) (hlen _ hsigM) hstack hdg
  obtain ⟨v, B, X', hpost, hsteps⟩ := hK m meth c ⟨T.setVm vm₁, locs, cells, slots⟩ { g with stack := rest } (.invokestatic index) mk argsL.toArray X₁ hg hsize hdg hW (X₁.named hnamed) (hpre vm₁ X₁.warmed)
  exact ⟨v, vm₁, B, X₁.warmed, X', hpost, fun target h => hstep₁ _ fun acts => by rw [doInvoke_state]; exact hsteps.trans h⟩
theorem vx_runSW {y : MethodName} {bytes cc : ByteArray} {maxL nL mc ms n index : Nat} {ret : Option FieldType} {hh : List (Nat × Nat × Nat × Nat)} {ws : List Cond} {rm : Room} {Pc : Array Value → State → Prop} {Qc : Array Value → State → Outcome → State → Prop} {free : Addr → Prop} {Ts : List Cond} {own : String} {As rest : List Value} {g : JFrame}
    (S : CallFix p m c cc nL s args Ts own) (hM : Met l y ws rm Pc Qc mc ms free) (cw : vx_CSW R s args own index y bytes maxL ret hh ws rm mc ms n) (hp : PreS s H Pc As)
    (hg : g.method = m) (hn : As.length = n) (hsize : g.locals.size = nL) (hstack : g.stack = As.reverse ++ rest) (hW : 2 * g.monitorRoom + (rest.map fun v => v.category).sum ≤ 8) (hdg : decode cc g.pc = .ok (.invokestatic index, 3)) (hf : cells + mc ≤ R.cells ∧ slots + ms ≤ R.slots) :
    va_Run p l e R s m args below meth c H locs cells slots mc ms g rest (Qc As.toArray) (free) := by
  obtain ⟨⟨hrc, hrs, hfr, hlo, hws, hcw⟩, hcode, hini, hy, hlen, hl, hstt⟩ := cw
  have hK : Back l R p e below s args y 3 8 (PreOf R mc ms Pc) (PostOf Qc mc ms free) := va_backW (hh := hh) (bytes := bytes) (maxL := maxL) (ret := ret) hM hp.1 hrc hrs hfr hlo hws hcw (fun a' U hW => word_at hW (Or.inl (by first | rfl | simp [Cond.onTables, Cond.keeps, Cond.steady])) hini)
  obtain ⟨hx, hb, hml, ho, -⟩ := S
  intro T hT X
  obtain ⟨v, vm₁, ⟨U', l2, c2, s2⟩, hW₁, X', ⟨g', mk, t, L, e1, e2, hq, h1, hL, h2, h3⟩, st⟩ := vx_callSW X hx (hh := hh) (bytes := bytes) (maxL := maxL) (ret := ret) ho hl hstt hini hcode hy hK hg (hsize.trans hml.symm) (argsL := As) (rest := rest) (fun sig h => hn.trans (hlen sig h)) hstack hW (by rw [hb]; exact hdg)
    (fun vm₁ hW₁ => ⟨hf.1, hf.2, hp.2 (T.setVm vm₁) hT hW₁⟩)
  dsimp only [Pt.U, Pt.locs, Pt.cells, Pt.slots] at X' e1 e2 h1 h2 h3 st
  subst h1; subst h2; subst h3
  exact ⟨v, (T.setVm vm₁).calling g' mk As.toArray, t, U', L, hT, X', hL, e1, e2, hq, st⟩
/-- not caught here, past rows that name other classes: it goes on to the caller -/
theorem vx_outP {p : Program} {l : Launch} {e : Env} {R : Room} {s : State} {m : MethodId} {args : Array Value} {below : List Frame} {meth : Method} {c : Code} {H : Heap} {locs : List Loc} {cells slots : Nat} {free : Addr → Prop} {ls : Array Slot} {rest : List Value} {Qc : Array Value → State → Outcome → State → Prop} {XC : String → State → State → Prop}
    {pc : Nat} {own E : String} {ce : Cell} {q : Addr} {mc ms : Nat} (hown : s.vm.findClass own = some m.cls) (hlocks : meth.locks = false)
    (hpass : ∀ z ∈ c.exceptionTable.toList, covers z pc = false ∨ (z.catchType ≠ 0 ∧ ∃ nm : String, (Cond.classLink own z.catchType nm).before args s = true ∧ va_Nc E nm s)) (hcell : H[q]? = some ce) (hv : ce.vm = .none) (hcl : s.vm.findClass E = some ce.cls)
    (hx : ∀ t : State, t.heap = H → s.vm.Alike t.vm → XC E s t) (hf : ∀ z ∈ locs, free z.base) (hc : cells ≤ mc) (hs : slots ≤ ms) :
    vx_W p l e R s m args below meth c H locs cells slots (vx_MQ below Qc XC args s mc ms free) (F0 m pc ls rest) q := by
  intro T hT X
  have hpl : e.platform.magicAccessors = ({} : Platform).magicAccessors := by rw [X.admits.platform]
  obtain ⟨vm', hW', X', st⟩ := X.outThrough hlocks q (g := F0 m pc ls rest) rfl rfl rfl (cell := ce) (by rw [hT]; exact hcell) (by rw [hv]; rfl)
    (by obtain ⟨k9, h9, -⟩ := Vm.findClass_spec hcl; exact ⟨k9, h9⟩) (fun z hz => by
      rcases hpass z hz with h | ⟨hz0, nm, hl1, hn1⟩
      · exact Or.inl h
      · obtain ⟨c6, hc6, hcl6⟩ := Cond.classLink_spec hown hl1 e.platform hpl
        obtain ⟨a8, b8, h1, h2, h3⟩ := hn1
        cases Option.some.inj (h1.symm.trans hcl)
        cases Option.some.inj (h2.symm.trans hc6)
        exact Or.inr ⟨hz0, _, hcl6, h3⟩)
  obtain ⟨g₀, hfr⟩ := X'.frames_eq
  have hcell9 : ((T.setVm vm').setFrames (.throwing q :: below)).heap[q]? = some ce := by
    show T.heap[q]? = some ce
    rw [hT]; exact hcell
  have hend : Ended ((T.setVm vm').setFrames (.throwing q :: below)) below (.threw q) := State.frames_setFrames _ (State.cur_lt_of_frames hfr)
  refine ⟨(T.setVm vm').setFrames (.throwing q :: below), ?_, .threw q, X'.here.running, hend, Or.inr ⟨q, rfl, E, ce, locs, hx _ hT (X'.ends _).1.alike, hcell9, hv, hcl, (X'.ends _).1, (X'.ends _).2.mono hc hs, hf⟩⟩
  rw [X.pushThrowing_eq]
  exact st
/-- a thing of a world lies in the heap -/
theorem vx_lt {D : va_G} {cl : List vw_C} {ws : va_W} {H1 : Heap} (h : va_P D cl ws H1) {k : Nat} {q : Nat × va_E} (hk : ws[k]? = some q) : q.1 < H1.size := (h k q hk).lt
end VXS
/-! ===== END ===== -/
/-! ===== BEGIN methods with a table of their own: called by a name, returning or throwing ===== -/
section VXH
/-! vx_backW, vx_callVX, vx_callSX, vx_callVW, vx_runVW, vx_runVX, vx_runSX, vx_ofWH follow the same proofs as their sisters above (Free/Laws.lean, Shelf42/LK1.lean); vx_outP calls Shelf42/NT130.lean (outThrough). -/
section
variable {l : Launch} {R : Room} {p : Program} {e : Env} {below : List Frame} {s : State} {sargs : Array Value} {y : MethodName} {len W9 : Nat}
theorem vx_backW {ws : List Cond} {rm : Room} {Pc : Array Value → State → Prop} {Qc : Array Value → State → Outcome → State → Prop} {XC : String → State → State → Prop} {mc ms : Nat} {free : Addr → Prop} {bytes : ByteArray} {maxL : Nat} {ret : Option FieldType} {hh : List (Nat × Nat × Nat × Nat)}
    (hM : vx_Met l y ws rm Pc Qc XC mc ms free) (hblind : FrameBlind Pc) (hrc : rm.cells = mc) (hrs : rm.slots = ms)
    (hframes : rm.frames + 1 ≤ R.frames) (hlocals : W9 + (maxL + 11) + rm.locals ≤ R.locals)
    (hws : ∀ w ∈ ws, ∀ a' U, s.WarmedH U.vm → w.before a' U = true) (hcode : Cond.codeWith y bytes maxL ret hh ∈ ws) (hinit : ∀ a' U, s.WarmedH U.vm → (Cond.initialized y.cls).before a' U = true) :
    vx_Back l R p e below s sargs y len W9 (PreOf R mc ms Pc) (PostOf Qc mc ms free) (vx_Post XC mc ms free) := by
  intro m meth c A g ig mk a X hg hsize hdg hW hn hp
  have h1 : (headSpec ws rm).pre.before a A.U = true := atoms_intro fun w hw => hws w hw _ _ X.warmed
  have h2 : (Cond.codeWith y bytes maxL ret hh).before a A.U = true := hws _ hcode _ _ X.warmed
  have h3 : (Cond.initialized y.cls).before a A.U = true := hinit _ _ X.warmed
  have h4 : A.cells + (headSpec ws rm).room.cells ≤ R.cells := by rw [show (headSpec ws rm).room.cells = mc from hrc]; exact hp.1
  have h5 : A.slots + (headSpec ws rm).room.slots ≤ R.slots := by rw [show (headSpec ws rm).room.slots = ms from hrs]; exact hp.2.1
  have hPc : Pc a (A.U.calling g mk a) := hblind _ _ _ _ hp.2.2
  obtain ⟨U, Ls, c0, s0⟩ := A
  dsimp only [Pt.U, Pt.locs, Pt.cells, Pt.slots] at h1 h2 h3 h4 h5 X hn hPc ⊢
  obtain ⟨m9, methY, cY, hn9, hmY, hcY, -, hlY, -⟩ := Cond.codeWith_spec h2
  cases Option.some.inj (hn9.symm.trans hn)
  obtain ⟨kY, hkY, -⟩ := className_of_methodNamed hn
  have hinitY : kY.init = .initialized := Cond.initialized_spec (findClass_of_methodNamed hn) hkY h3
  have h : At U g.method c below := by rw [hg]; exact X.here
  have hlocals9 : W9 + (maxL + 11) + (headSpec ws rm).room.locals ≤ R.locals := hlocals
  have happ : (headSpec ws rm).appliesLoose y e.platform (U.calling g mk a) = true :=
    Spec.appliesLoose_calling (g := g) h hdg hn hkY hinitY
      (X.room_calling (g := g) (R' := (headSpec ws rm).room) hsize hmY hcY hframes (by rw [hlY]; omega) h4 h5) h1
  obtain ⟨mid, hmid⟩ := h.above
  have hfr : (U.setTop g).frames = (.java g :: mid) ++ below := by rw [State.frames_setTop' g h.top, hmid]; rfl
  obtain ⟨o, s₂, hsteps, -, hend, hq⟩ := Steps.callFree hM p X.admits X.cas X.clock (acts := []) hfr happ hPc trivial
  have hq' : vx_Q Qc XC mc ms free a (U.calling g mk a) o s₂ := hq
  rw [State.frames_setTop' g h.top] at hend
  obtain ⟨g₀, hg0⟩ := Option.isSome_iff_exists.mp h.top
  obtain ⟨r, hr⟩ := State.topJava?_eq_some.mp hg0
  have hr' : (({ U with heap := s₂.heap, slotsUsed := s₂.slotsUsed } : State).setVm s₂.vm).frames = .java g₀ :: r := hr
  rcases hq' with ⟨hqc, L, hfe, hL⟩ | ⟨q, rfl, E, ce, L, hx, hce, hcv, hcl, hW₂, hsm, hL⟩
  · obtain ⟨⟨v, rfl⟩, hW₂, e2, q2, q3, q4, q5, q6⟩ := id hfe
    have e3 : s₂ = ({ (U.calling g mk a).setFrames s₂.frames with heap := s₂.heap, slotsUsed := s₂.slotsUsed } : State).setVm s₂.vm := by
      have : s₂ = ({ s₂ with vm := (U.calling g mk a).vm } : State).setVm s₂.vm := rfl
      rw [e2] at this
      exact this
    obtain ⟨c₂, i₂, len₂, hc₂, hd₂, hf₂⟩ := hend
    have hW' : U.WarmedH s₂.vm := hW₂
    have hcc : c₂ = c := by
      have h1 : s₂.code? g.method = U.code? g.method := by
        rw [State.code?_eq, State.code?_eq, hW'.alike.method?]
      exact Option.some.inj (hc₂.symm.trans (h1.trans h.code))
    subst hcc
    have hlen : len₂ = len := by rw [hdg] at hd₂; cases hd₂; rfl
    subst hlen
    have hs₂ : s₂ = (({ U with heap := s₂.heap, slotsUsed := s₂.slotsUsed } : State).setVm s₂.vm).setTop { g with pc := g.pc + len₂, stack := v.toList ++ g.stack } := by
      refine e3.trans ?_
      rw [hf₂, State.calling_eq h.top, State.setFrames_setFrames, State.setTop_of_frames _ hr', hr]
      rfl
    have hsame : U.sameButNew ({ U with heap := s₂.heap, slotsUsed := s₂.slotsUsed } : State) L mc ms := by
      refine ⟨?_, q2, q3, q4, q5, q6⟩
      obtain ⟨t, ht, -⟩ := State.frames_cons hr
      show ({ U with heap := s₂.heap, slotsUsed := s₂.slotsUsed } : State) = { U.setFrames U.frames with heap := s₂.heap, slotsUsed := s₂.slotsUsed }
      rw [State.setFrames_self ht]
    subst hg
    refine Or.inl ⟨v, ⟨(({ U with heap := s₂.heap, slotsUsed := s₂.slotsUsed } : State).setVm s₂.vm), Ls ++ L, c0 + mc, s0 + ms⟩,
      ⟨X.admits, X.cas, X.clock, X.frames, X.room, X.hears, X.method, X.code, (X.here.setHeapUsed s₂.heap s₂.slotsUsed).setVm hW'.alike, X.tail, State.WarmedH.trans X.warmed hW', X.limits, X.bytes, X.same.trans (hsame.setVm s.vm)⟩,
      ⟨g, mk, s₂, L, rfl, rfl, hqc, rfl, hL, rfl, rfl⟩, ?_⟩
    show Steps p.tables e below _ ((({ U with heap := s₂.heap, slotsUsed := s₂.slotsUsed } : State).setVm s₂.vm).setTop { g with pc := g.pc + len₂, stack := v.toList ++ g.stack })
    rw [← hs₂]
    exact hsteps
  · obtain ⟨e2, q2, q3, q4, q5, q6⟩ := id hsm
    have e3 : s₂ = ({ (U.calling g mk a).setFrames s₂.frames with heap := s₂.heap, slotsUsed := s₂.slotsUsed } : State).setVm s₂.vm := by
      have : s₂ = ({ s₂ with vm := (U.calling g mk a).vm } : State).setVm s₂.vm := rfl
      rw [e2] at this
      exact this
    have hf₂ : s₂.frames = .throwing q :: .java g :: U.frames.tail := hend
    have hW' : U.WarmedH s₂.vm := hW₂
    have hs₂ : s₂ = ((({ U with heap := s₂.heap, slotsUsed := s₂.slotsUsed } : State).setVm s₂.vm).setTop g).pushFrame (.throwing q) := by
      refine e3.trans ?_
      rw [hf₂, State.calling_eq h.top, State.setFrames_setFrames, State.pushFrame, State.frames_setTop _ hr', State.setTop_of_frames _ hr', State.setFrames_setFrames, hr]
      rfl
    have hsame : U.sameButNew ({ U with heap := s₂.heap, slotsUsed := s₂.slotsUsed } : State) L mc ms := by
      refine ⟨?_, q2, q3, q4, q5, q6⟩
      obtain ⟨t, ht, -⟩ := State.frames_cons hr
      show ({ U with heap := s₂.heap, slotsUsed := s₂.slotsUsed } : State) = { U.setFrames U.frames with heap := s₂.heap, slotsUsed := s₂.slotsUsed }
      rw [State.setFrames_self ht]
    subst hg
    refine Or.inr ⟨q, ⟨(({ U with heap := s₂.heap, slotsUsed := s₂.slotsUsed } : State).setVm s₂.vm), Ls ++ L, c0 + mc, s0 + ms⟩,
      ⟨X.admits, X.cas, X.clock, X.frames, X.room, X.hears, X.method, X.code, (X.here.setHeapUsed s₂.heap s₂.slotsUsed).setVm hW'.alike, X.tail, State.WarmedH.trans X.warmed hW', X.limits, X.bytes, X.same.trans (hsame.setVm s.vm)⟩,
      ⟨g, mk, s₂, L, E, ce, rfl, rfl, hx, hce, hcv, hcl, rfl, hL, rfl, rfl⟩, ?_⟩
    show Steps p.tables e below _ (((({ U with heap := s₂.heap, slotsUsed := s₂.slotsUsed } : State).setVm s₂.vm).setTop g).pushFrame (.throwing q))
    rw [← hs₂]
    exact hsteps
end
variable {p : Program} {l : Launch} {e : Env} {R : Room} {s : State} {m : MethodId} {args : Array Value} {below : List Frame} {meth : Method} {c : Code} {T : State} {H : Heap} {locs : List Loc} {cells slots : Nat}
theorem vx_callVX (X : Stand p l e R s m args below meth c T locs cells slots) (hexec : p.tables.exec = Jvm.exec) {own C : String} {index : Nat} {y : MethodName} {bytes : ByteArray} {maxL : Nat} {ret : Option FieldType} {hh : List (Nat × Nat × Nat × Nat)}
    (hown : s.vm.findClass own = some m.cls) (hlink : (Cond.methodLink own index y).before args s = true) (hinst : (Cond.instanceMethod y).before args s = true) (hsel : (Cond.selects C y y).before args s = true)
    (hcode : (Cond.codeWith y bytes maxL ret hh).before args s = true) (hy : y.cls ≠ "java/lang/invoke/MethodHandle" ∧ y.cls ≠ "java/lang/invoke/VarHandle")
    {W9 : Nat} {Pre : Pt → Array Value → Prop} {Post : Pt → Array Value → Option Value → Pt → Prop} {PostX : Pt → Array Value → Addr → Pt → Prop} (hK : vx_Back l R p e below s args y 3 W9 Pre Post PostX)
    {b : Addr} {cellB : Cell} (hcell : T.heap[b]? = some cellB) (hobj : cellB.vm.isStatics = false) (hcls : s.vm.findClass C = some cellB.cls)
    {g : JFrame} (hg : g.method = m) (hsize : g.locals.size = c.maxLocals) {argsL rest : List Value} (hlen : ∀ sig, parseMethodDescriptor y.desc = some sig → argsL.length = sig.parameters.length)
    (hstack : g.stack = argsL.reverse ++ .ref b :: rest) (hW : 2 * g.monitorRoom + (rest.map fun v => v.category).sum ≤ W9) (hdg : decode c.code g.pc = .ok (.invokevirtual index, 3))
    (hpre : ∀ vm₁, s.WarmedH vm₁ → Pre ⟨T.setVm vm₁, locs, cells, slots⟩ (Value.ref b :: argsL).toArray) :
    (∃ (v : Option Value) (vm₁ : Vm) (B : Pt), s.WarmedH vm₁ ∧ Stand p l e R s m args below meth c B.U B.locs B.cells B.slots ∧ Post ⟨T.setVm vm₁, locs, cells, slots⟩ (Value.ref b :: argsL).toArray v B ∧
      ∀ target, Steps p.tables e below (B.U.setTop { g with pc := g.pc + 3, stack := v.toList ++ rest }) target → Steps p.tables e below (T.setTop g) target) ∨
    (∃ (q : Addr) (vm₁ : Vm) (B : Pt), s.WarmedH vm₁ ∧ Stand p l e R s m args below meth c B.U B.locs B.cells B.slots ∧ PostX ⟨T.setVm vm₁, locs, cells, slots⟩ (Value.ref b :: argsL).toArray q B ∧
      Steps p.tables e below (T.setTop g) ((B.U.setTop { g with stack := rest }).pushFrame (.throwing q))) := by
  obtain ⟨mk, methM, hnamed, hmethM, hstM, habM⟩ := Cond.instanceMethod_spec hinst
  obtain ⟨m8, methM', cM, hn8, hmethM', -, -, -, -, -, -, hsigM⟩ := Cond.codeWith_spec hcode
  cases Option.some.inj (hn8.symm.trans hnamed)
  cases hmethM.symm.trans hmethM'
  obtain ⟨c2, r2, m2, q1, q2, q3, q4, kP, hkP, hkPi⟩ := Cond.selects_spec hsel
  cases hcls.symm.trans q1
  cases (State.methodFound?_of_named hnamed hy).symm.trans q2
  cases hnamed.symm.trans q3
  have hselP : selectMethod e.platform s.vm cellB.cls mk = .method mk := by rw [Launch.admits_selectMethod X.admits]; exact q4
  obtain ⟨vm₁, X₁, hstep₁⟩ := X.invokevirtual hexec hown hlink hnamed hmethM hstM hkP hkPi hy (a := b) (cell := cellB) hcell
    (fun z h => by rw [h] at hobj; cases hobj) hselP hmethM habM hkP hkPi (g := g) hg (argsL := argsL) (rest := rest) (hlen _ hsigM) hstack hdg
  rcases hK m meth c ⟨T.setVm vm₁, locs, cells, slots⟩ { g with stack := rest } (.invokevirtual index) mk (Value.ref b :: argsL).toArray X₁ hg hsize hdg hW (X₁.named hnamed) (hpre vm₁ X₁.warmed) with ⟨v, B, X', hpost, hsteps⟩ | ⟨q, B, X', hpost, hsteps⟩
  · exact Or.inl ⟨v, vm₁, B, X₁.warmed, X', hpost, fun target h => hstep₁ _ fun acts => by rw [doInvoke_state]; exact hsteps.trans h⟩
  · exact Or.inr ⟨q, vm₁, B, X₁.warmed, X', hpost, hstep₁ _ fun acts => by rw [doInvoke_state]; exact hsteps⟩
theorem vx_callSX (X : Stand p l e R s m args below meth c T locs cells slots) (hexec : p.tables.exec = Jvm.exec) {own : String} {index : Nat} {y : MethodName} {bytes : ByteArray} {maxL : Nat} {ret : Option FieldType} {hh : List (Nat × Nat × Nat × Nat)}
    (hown : s.vm.findClass own = some m.cls) (hlink : (Cond.methodLink own index y).before args s = true) (hstat : (Cond.static y).before args s = true) (hinit : (Cond.initialized y.cls).before args s = true)
    (hcode : (Cond.codeWith y bytes maxL ret hh).before args s = true) (hy : y.cls ≠ "java/lang/invoke/MethodHandle" ∧ y.cls ≠ "java/lang/invoke/VarHandle")
    {W9 : Nat} {Pre : Pt → Array Value → Prop} {Post : Pt → Array Value → Option Value → Pt → Prop} {PostX : Pt → Array Value → Addr → Pt → Prop} (hK : vx_Back l R p e below s args y 3 W9 Pre Post PostX)
    {g : JFrame} (hg : g.method = m) (hsize : g.locals.size = c.maxLocals) {argsL rest : List Value} (hlen : ∀ sig, parseMethodDescriptor y.desc = some sig → argsL.length = sig.parameters.length)
    (hstack : g.stack = argsL.reverse ++ rest) (hW : 2 * g.monitorRoom + (rest.map fun v => v.category).sum ≤ W9) (hdg : decode c.code g.pc = .ok (.invokestatic index, 3))
    (hpre : ∀ vm₁, s.WarmedH vm₁ → Pre ⟨T.setVm vm₁, locs, cells, slots⟩ argsL.toArray) :
    (∃ (v : Option Value) (vm₁ : Vm) (B : Pt), s.WarmedH vm₁ ∧ Stand p l e R s m args below meth c B.U B.locs B.cells B.slots ∧ Post ⟨T.setVm vm₁, locs, cells, slots⟩ argsL.toArray v B ∧
      ∀ target, Steps p.tables e below (B.U.setTop { g with pc := g.pc + 3, stack := v.toList ++ rest }) target → Steps p.tables e below (T.setTop g) target) ∨
    (∃ (q : Addr) (vm₁ : Vm) (B : Pt), s.WarmedH vm₁ ∧ Stand p l e R s m args below meth c B.U B.locs B.cells B.slots ∧ PostX ⟨T.setVm vm₁, locs, cells, slots⟩ argsL.toArray q B ∧
      Steps p.tables e below (T.setTop g) ((B.U.setTop { g with stack := rest }).pushFrame (.throwing q))) := by
  obtain ⟨mk, methM, cM, hnamed, hmethM, -, -, -, -, -, -, hsigM⟩ := Cond.codeWith_spec hcode
  have hstatic : methM.isStatic = true := Cond.static_spec hnamed hmethM hstat
  obtain ⟨kP, hkP, -⟩ := className_of_methodNamed hnamed
  have hinitP : kP.init = .initialized := Cond.initialized_spec (findClass_of_methodNamed hnamed) hkP hinit
  obtain ⟨vm₁, X₁, hstep₁⟩ := X.invokestatic hexec hown hlink hnamed hmethM hstatic hkP hinitP hy (g := g) hg (argsL := argsL) (rest := rest) (hlen _ hsigM) hstack hdg
  rcases hK m meth c ⟨T.setVm vm₁, locs, cells, slots⟩ { g with stack := rest } (.invokestatic index) mk argsL.toArray X₁ hg hsize hdg hW (X₁.named hnamed) (hpre vm₁ X₁.warmed) with ⟨v, B, X', hpost, hsteps⟩ | ⟨q, B, X', hpost, hsteps⟩
  · exact Or.inl ⟨v, vm₁, B, X₁.warmed, X', hpost, fun target h => hstep₁ _ fun acts => by rw [doInvoke_state]; exact hsteps.trans h⟩
  · exact Or.inr ⟨q, vm₁, B, X₁.warmed, X', hpost, hstep₁ _ fun acts => by rw [doInvoke_state]; exact hsteps⟩
theorem vx_callVW (X : Stand p l e R s m args below meth c T locs cells slots) (hexec : p.tables.exec = Jvm.exec) {own C : String} {index : Nat} {y : MethodName} {bytes : ByteArray} {maxL : Nat} {ret : Option FieldType} {hh : List (Nat × Nat × Nat × Nat)}
    (hown : s.vm.findClass own = some m.cls) (hlink : (Cond.methodLink own index y).before args s = true) (hinst : (Cond.instanceMethod y).before args s = true) (hsel : (Cond.selects C y y).before args s = true)
    (hcode : (Cond.codeWith y bytes maxL ret hh).before args s = true) (hy : y.cls ≠ "java/lang/invoke/MethodHandle" ∧ y.cls ≠ "java/lang/invoke/VarHandle")
    {W9 : Nat} {Pre : Pt → Array Value → Prop} {Post : Pt → Array Value → Option Value → Pt → Prop} (hK : Back l R p e below s args y 3 W9 Pre Post)
    {b : Addr} {cellB : Cell} (hcell : T.heap[b]? = some cellB) (hobj : cellB.vm.isStatics = false) (hcls : s.vm.findClass C = some cellB.cls)
    {g : JFrame} (hg : g.method = m) (hsize : g.locals.size = c.maxLocals) {argsL rest : List Value} (hlen : ∀ sig, parseMethodDescriptor y.desc = some sig → argsL.length = sig.parameters.length)
    (hstack : g.stack = argsL.reverse ++ .ref b :: rest) (hW : 2 * g.monitorRoom + (rest.map fun v => v.category).sum ≤ W9) (hdg : decode c.code g.pc = .ok (.invokevirtual index, 3))
    (hpre : ∀ vm₁, s.WarmedH vm₁ → Pre ⟨T.setVm vm₁, locs, cells, slots⟩ (Value.ref b :: argsL).toArray) :
    ∃ (v : Option Value) (vm₁ : Vm) (B : Pt), s.WarmedH vm₁ ∧ Stand p l e R s m args below meth c B.U B.locs B.cells B.slots ∧ Post ⟨T.setVm vm₁, locs, cells, slots⟩ (Value.ref b :: argsL).toArray v B ∧
      ∀ target, Steps p.tables e below (B.U.setTop { g with pc := g.pc + 3, stack := v.toList ++ rest }) target → Steps p.tables e below (T.setTop g) target := by
  obtain ⟨mk, methM, hnamed, hmethM, hstM, habM⟩ := Cond.instanceMethod_spec hinst
  obtain ⟨m8, methM', cM, hn8, hmethM', -, -, -, -, -, -, hsigM⟩ := Cond.codeWith_spec hcode
  cases Option.some.inj (hn8.symm.trans hnamed)
  cases hmethM.symm.trans hmethM'
  obtain ⟨c2, r2, m2, q1, q2, q3, q4, kP, hkP, hkPi⟩ := Cond.selects_spec hsel
  cases hcls.symm.trans q1
  cases (State.methodFound?_of_named hnamed hy).symm.trans q2
  cases hnamed.symm.trans q3
  have hselP : selectMethod e.platform s.vm cellB.cls mk = .method mk := by rw [Launch.admits_selectMethod X.admits]; exact q4
  obtain ⟨vm₁, X₁, hstep₁⟩ := X.invokevirtual hexec hown hlink hnamed hmethM hstM hkP hkPi hy (a := b) (cell := cellB) hcell
    (fun z h => by rw [h] at hobj; cases hobj) hselP hmethM habM hkP hkPi (g := g) hg (argsL := argsL) (rest := rest) (hlen _ hsigM) hstack hdg
  obtain ⟨v, B, X', hpost, hsteps⟩ := hK m meth c ⟨T.setVm vm₁, locs, cells, slots⟩ { g with stack := rest } (.invokevirtual index) mk (Value.ref b :: argsL).toArray X₁ hg hsize hdg hW (X₁.named hnamed) (hpre vm₁ X₁.warmed)
  exact ⟨v, vm₁, B, X₁.warmed, X', hpost, fun target h => hstep₁ _ fun acts => by rw [doInvoke_state]; exact hsteps.trans h⟩
abbrev vx_CVW (R : Room) (s : State) (args : Array Value) (own C : String) (index : Nat) (y : MethodName) (bytes : ByteArray) (maxL : Nat) (ret : Option FieldType) (hh : List (Nat × Nat × Nat × Nat)) (ws : List Cond) (rm : Room) (mc ms n : Nat) : Prop :=
  (rm.cells = mc ∧ rm.slots = ms ∧ rm.frames + 1 ≤ R.frames ∧ 8 + (maxL + 11) + rm.locals ≤ R.locals ∧ (∀ w ∈ ws, ∀ (a' : Array Value) (U : State), s.WarmedH U.vm → w.before a' U = true) ∧ Cond.codeWith y bytes maxL ret hh ∈ ws) ∧
  (Cond.codeWith y bytes maxL ret hh).before args s = true ∧ (Cond.initialized y.cls).before args s = true ∧ (y.cls ≠ "java/lang/invoke/MethodHandle" ∧ y.cls ≠ "java/lang/invoke/VarHandle") ∧
  (∀ sig, parseMethodDescriptor y.desc = some sig → n = sig.parameters.length) ∧ (Cond.methodLink own index y).before args s = true ∧ (Cond.instanceMethod y).before args s = true ∧ (Cond.selects C y y).before args s = true
theorem vx_cwVW {own C : String} {index maxL mc ms : Nat} {y : MethodName} {bytes : ByteArray} {ret : Option FieldType} {hh : List (Nat × Nat × Nat × Nat)} {Ts ws ws' : List Cond} {rm : Room} (n : Nat) (ht : ∀ w ∈ Ts, w.before args s = true) (hT : GoodIn Ts (wsV own index C y ws)) (hw : ws = Cond.codeWith y bytes maxL ret hh :: ws') (hrc : rm.cells = mc) (hrs : rm.slots = ms)
    (hd : y.cls = C ∧ y.cls ≠ "java/lang/invoke/MethodHandle" ∧ y.cls ≠ "java/lang/invoke/VarHandle" ∧ (parseMethodDescriptor y.desc).map (fun d => d.parameters.length) = some n) (hR : rm.frames + 1 ≤ R.frames ∧ 8 + (maxL + 11) + rm.locals ≤ R.locals) :
    vx_CVW R s args own C index y bytes maxL ret hh ws rm mc ms n := by
  obtain ⟨hC, hd⟩ := hd
  subst hC
  have ok : ∀ w ∈ wsV own index y.cls y ws, w.before args s = true := fun w h => ht w (hT w h).1
  have hG : GoodIn Ts ws := fun w h => hT w (by unfold wsV; exact List.mem_append_right _ h)
  have hc : Cond.codeWith y bytes maxL ret hh ∈ ws := by rw [hw]; exact List.mem_cons_self
  refine ⟨⟨hrc, hrs, hR.1, hR.2, pay_in ht hG, hc⟩, ht _ (hG _ hc).1, ok _ (by simp [wsV]), ⟨hd.1, hd.2.1⟩, fun sig h => ?_, ok _ (by simp [wsV]), ok _ (by simp [wsV]), ok _ (by simp [wsV])⟩
  have h2 := hd.2.2
  rw [h] at h2
  exact (Option.some.inj h2).symm
theorem vx_runVW {y : MethodName} {bytes cc : ByteArray} {maxL nL mc ms n index : Nat} {ret : Option FieldType} {hh : List (Nat × Nat × Nat × Nat)} {ws : List Cond} {rm : Room} {Pc : Array Value → State → Prop} {Qc : Array Value → State → Outcome → State → Prop} {free : Addr → Prop} {Ts : List Cond} {own C : String} {b : Addr} {As rest : List Value} {g : JFrame}
    (S : CallFix p m c cc nL s args Ts own) (hM : Met l y ws rm Pc Qc mc ms free) (cw : vx_CVW R s args own C index y bytes maxL ret hh ws rm mc ms n) (hp : PreV s H C b Pc As)
    (hg : g.method = m) (hn : As.length = n) (hsize : g.locals.size = nL) (hstack : g.stack = As.reverse ++ .ref b :: rest) (hW : 2 * g.monitorRoom + (rest.map fun v => v.category).sum ≤ 8) (hdg : decode cc g.pc = .ok (.invokevirtual index, 3)) (hf : cells + mc ≤ R.cells ∧ slots + ms ≤ R.slots) :
    va_Run p l e R s m args below meth c H locs cells slots mc ms g rest (Qc (Value.ref b :: As).toArray) free := by
  obtain ⟨⟨hrc, hrs, hfr, hlo, hws, hcw⟩, hcode, hini, hy, hlen, hl, hin, hse⟩ := cw
  have hK : Back l R p e below s args y 3 8 (PreOf R mc ms Pc) (PostOf Qc mc ms free) := va_backW (hh := hh) (bytes := bytes) (maxL := maxL) (ret := ret) hM hp.1 hrc hrs hfr hlo hws hcw (fun a' U hW => word_at hW (Or.inl (by first | rfl | simp [Cond.onTables, Cond.keeps, Cond.steady])) hini)
  obtain ⟨hx, hb, hml, ho, -⟩ := S
  obtain ⟨-, ⟨cellB, hcB, hoB, hclB⟩, hPc⟩ := hp
  intro T hT X
  obtain ⟨v, vm₁, ⟨U', l2, c2, s2⟩, hW₁, X', ⟨g', mk, t, L, e1, e2, hq, h1, hL, h2, h3⟩, st⟩ := vx_callVW X hx (C := C) (hh := hh) (bytes := bytes) (maxL := maxL) (ret := ret) ho hl hin hse hcode hy hK (by rw [hT]; exact hcB) hoB hclB hg (hsize.trans hml.symm) (argsL := As) (rest := rest) (fun sig h => hn.trans (hlen sig h)) hstack hW (by rw [hb]; exact hdg)
    (fun vm₁ hW₁ => ⟨hf.1, hf.2, hPc (T.setVm vm₁) hT hW₁⟩)
  dsimp only [Pt.U, Pt.locs, Pt.cells, Pt.slots] at X' e1 e2 h1 h2 h3 st
  subst h1; subst h2; subst h3
  exact ⟨v, (T.setVm vm₁).calling g' mk (Value.ref b :: As).toArray, t, U', L, hT, X', hL, e1, e2, hq, st⟩
section
variable {y : MethodName} {bytes cc : ByteArray} {maxL nL mc ms n index : Nat} {ret : Option FieldType} {ws : List Cond} {rm : Room} {Pc : Array Value → State → Prop} {Qc : Array Value → State → Outcome → State → Prop} {XC : String → State → State → Prop} {free : Addr → Prop} {Ts : List Cond} {own C : String} {b : Addr} {As rest : List Value} {g : JFrame}
theorem vx_runVX {hh : List (Nat × Nat × Nat × Nat)} (S : CallFix p m c cc nL s args Ts own) (hM : vx_Met l y ws rm Pc Qc XC mc ms free) (cw : vx_CVW R s args own C index y bytes maxL ret hh ws rm mc ms n) (hp : PreV s H C b Pc As)
    (hg : g.method = m) (hn : As.length = n) (hsize : g.locals.size = nL) (hstack : g.stack = As.reverse ++ .ref b :: rest) (hW : 2 * g.monitorRoom + (rest.map fun v => v.category).sum ≤ 8) (hdg : decode cc g.pc = .ok (.invokevirtual index, 3)) (hf : cells + mc ≤ R.cells ∧ slots + ms ≤ R.slots) :
    vx_Run p l e R s m args below meth c H locs cells slots mc ms g rest (Qc (Value.ref b :: As).toArray) XC free := by
  obtain ⟨⟨hrc, hrs, hfr, hlo, hws, hcw⟩, hcode, hini, hy, hlen, hl, hin, hse⟩ := cw
  have hK : vx_Back l R p e below s args y 3 8 (PreOf R mc ms Pc) (PostOf Qc mc ms free) (vx_Post XC mc ms free) := vx_backW (hh := hh) (bytes := bytes) (maxL := maxL) (ret := ret) hM hp.1 hrc hrs hfr hlo hws hcw (fun a' U hW => word_at hW (Or.inl (by first | rfl | simp [Cond.onTables, Cond.keeps, Cond.steady])) hini)
  obtain ⟨hx, hb, hml, ho, -⟩ := S
  obtain ⟨-, ⟨cellB, hcB, hoB, hclB⟩, hPc⟩ := hp
  intro T hT X
  rcases vx_callVX X hx (C := C) (hh := hh) (bytes := bytes) (maxL := maxL) (ret := ret) ho hl hin hse hcode hy hK (by rw [hT]; exact hcB) hoB hclB hg (hsize.trans hml.symm) (argsL := As) (rest := rest) (fun sig h => hn.trans (hlen sig h)) hstack hW (by rw [hb]; exact hdg)
    (fun vm₁ hW₁ => ⟨hf.1, hf.2, hPc (T.setVm vm₁) hT hW₁⟩) with ⟨v, vm₁, ⟨U', l2, c2, s2⟩, hW₁, X', ⟨g', mk, t, L, e1, e2, hq, h1, hL, h2, h3⟩, st⟩ | ⟨q, vm₁, ⟨U', l2, c2, s2⟩, hW₁, X', ⟨g', mk, t, L, E, ce, e1, e2, hq, hce, hcv, hcl, h1, hL, h2, h3⟩, st⟩
  · dsimp only [Pt.U, Pt.locs, Pt.cells, Pt.slots] at X' e1 e2 h1 h2 h3 st
    subst h1; subst h2; subst h3
    exact Or.inl ⟨v, (T.setVm vm₁).calling g' mk (Value.ref b :: As).toArray, t, U', L, hT, X', hL, e1, e2, hq, st⟩
  · dsimp only [Pt.U, Pt.locs, Pt.cells, Pt.slots] at X' e1 e2 h1 h2 h3 st hcl
    subst h1; subst h2; subst h3
    exact Or.inr ⟨q, (T.setVm vm₁).calling g' mk (Value.ref b :: As).toArray, t, U', L, E, ce, hT, X', hL, e1, e2, hq, hce, hcv, vx_cls hW₁ hcl, st⟩
theorem vx_runSX {hh : List (Nat × Nat × Nat × Nat)} (S : CallFix p m c cc nL s args Ts own) (hM : vx_Met l y ws rm Pc Qc XC mc ms free) (cw : vx_CSW R s args own index y bytes maxL ret hh ws rm mc ms n) (hp : PreS s H Pc As)
    (hg : g.method = m) (hn : As.length = n) (hsize : g.locals.size = nL) (hstack : g.stack = As.reverse ++ rest) (hW : 2 * g.monitorRoom + (rest.map fun v => v.category).sum ≤ 8) (hdg : decode cc g.pc = .ok (.invokestatic index, 3)) (hf : cells + mc ≤ R.cells ∧ slots + ms ≤ R.slots) :
    vx_Run p l e R s m args below meth c H locs cells slots mc ms g rest (Qc As.toArray) XC free := by
  obtain ⟨⟨hrc, hrs, hfr, hlo, hws, hcw⟩, hcode, hini, hy, hlen, hl, hstt⟩ := cw
  have hK : vx_Back l R p e below s args y 3 8 (PreOf R mc ms Pc) (PostOf Qc mc ms free) (vx_Post XC mc ms free) := vx_backW (hh := hh) (bytes := bytes) (maxL := maxL) (ret := ret) hM hp.1 hrc hrs hfr hlo hws hcw (fun a' U hW => word_at hW (Or.inl (by first | rfl | simp [Cond.onTables, Cond.keeps, Cond.steady])) hini)
  obtain ⟨hx, hb, hml, ho, -⟩ := S
  intro T hT X
  rcases vx_callSX X hx (hh := hh) (bytes := bytes) (maxL := maxL) (ret := ret) ho hl hstt hini hcode hy hK hg (hsize.trans hml.symm) (argsL := As) (rest := rest) (fun sig h => hn.trans (hlen sig h)) hstack hW (by rw [hb]; exact hdg)
    (fun vm₁ hW₁ => ⟨hf.1, hf.2, hp.2 (T.setVm vm₁) hT hW₁⟩) with ⟨v, vm₁, ⟨U', l2, c2, s2⟩, hW₁, X', ⟨g', mk, t, L, e1, e2, hq, h1, hL, h2, h3⟩, st⟩ | ⟨q, vm₁, ⟨U', l2, c2, s2⟩, hW₁, X', ⟨g', mk, t, L, E, ce, e1, e2, hq, hce, hcv, hcl, h1, hL, h2, h3⟩, st⟩
  · dsimp only [Pt.U, Pt.locs, Pt.cells, Pt.slots] at X' e1 e2 h1 h2 h3 st
    subst h1; subst h2; subst h3
    exact Or.inl ⟨v, (T.setVm vm₁).calling g' mk As.toArray, t, U', L, hT, X', hL, e1, e2, hq, st⟩
  · dsimp only [Pt.U, Pt.locs, Pt.cells, Pt.slots] at X' e1 e2 h1 h2 h3 st hcl
    subst h1; subst h2; subst h3
    exact Or.inr ⟨q, (T.setVm vm₁).calling g' mk As.toArray, t, U', L, E, ce, hT, X', hL, e1, e2, hq, hce, hcv, vx_cls hW₁ hcl, st⟩
end
end VXH
theorem vx_ofWH {l : Launch} {y : MethodName} {ws ws' : List Cond} {rm : Room} {Pc : Array Value → State → Prop} {Qc : Array Value → State → Outcome → State → Prop} {XC : String → State → State → Prop} {mc ms : Nat} {free : Addr → Prop} {cc : ByteArray} {maxL : Nat} {ret : Option FieldType} {hh : List (Nat × Nat × Nat × Nat)}
    (hy : plainName y.cls = true) (hw : ws = Cond.codeWith y cc maxL ret hh :: ws')
    (body : ∀ p e s m args below meth c s₁, BodyLoose p l y (headSpec ws rm) cc maxL ret e s m args below meth c s₁ → c.maxLocals = maxL → Pc args s →
      W p l e (headSpec ws rm).room s m args below meth c s.heap [] 0 0 (vx_MQ below Qc XC args s mc ms free) (entryFrame m args maxL)) : vx_Met l y ws rm Pc Qc XC mc ms free := by
  refine MetFree.of_bodyS (code := cc) (maxLocals := maxL) (ret := ret) hy ?_ ?_
  · intro args s m h hn
    obtain ⟨m9, meth, c, hn9, h1, h2, h3, h4, -, h5, h6, -⟩ := Cond.codeWith_spec (atoms_spec (ws := ws) h _ (by rw [hw]; exact List.mem_cons_self))
    cases hn.symm.trans hn9
    exact ⟨meth, c, h1, h2, h3, h4, h5, h6⟩
  · intro p e s m args below meth c s₁ B hml hP _
    have hh0 : s₁.heap = s.heap := by rw [B.state]; rfl
    obtain ⟨t, a1, o, b1, b2, b3⟩ := body p e s m args below meth c s₁ B hml hP s₁ hh0 (Stand.of_body B)
    exact ⟨t, o, a1, b1, b2, b3⟩
end
section
/-! ===== BEGIN a constructor that throws (launches without stack traces) ===== -/
section VXIA
variable {p : Program} {l : Launch} {e : Env} {R : Room} {s : State} {m : MethodId} {args : Array Value} {below : List Frame} {meth : Method} {c : Code} {T : State} {locs : List Loc} {cells slots : Nat}
theorem vx_callI (X : Stand p l e R s m args below meth c T locs cells slots) (hexec : p.tables.exec = Jvm.exec) {own : String} {index : Nat} {y : MethodName} {bytes : ByteArray} {maxL : Nat}
    (hown : s.vm.findClass own = some m.cls) (hy1 : y.name = "<init>") (hlink : (Cond.methodLink own index y).before args s = true) (hinst : (Cond.instanceMethod y).before args s = true)
    (hcode : (Cond.code y bytes maxL none).before args s = true) (hy : y.cls ≠ "java/lang/invoke/MethodHandle" ∧ y.cls ≠ "java/lang/invoke/VarHandle")
    {W9 : Nat} {Pre : Pt → Array Value → Prop} {Post : Pt → Array Value → Option Value → Pt → Prop} {PostX : Pt → Array Value → Addr → Pt → Prop} (hK : vx_Back l R p e below s args y 3 W9 Pre Post PostX)
    {g : JFrame} (hg : g.method = m) (hsize : g.locals.size = c.maxLocals) {a : Addr} {argsL rest : List Value} (hlen : ∀ sig, parseMethodDescriptor y.desc = some sig → argsL.length = sig.parameters.length)
    (hstack : g.stack = argsL.reverse ++ .ref a :: rest) (hW : 2 * g.monitorRoom + (rest.map fun v => v.category).sum ≤ W9) (hdg : decode c.code g.pc = .ok (.invokespecial index, 3))
    (hpre : ∀ vm₁, s.WarmedH vm₁ → Pre ⟨T.setVm vm₁, locs, cells, slots⟩ (Value.ref a :: argsL).toArray) :
    (∃ (v : Option Value) (vm₁ : Vm) (B : Pt), s.WarmedH vm₁ ∧ Stand p l e R s m args below meth c B.U B.locs B.cells B.slots ∧ Post ⟨T.setVm vm₁, locs, cells, slots⟩ (Value.ref a :: argsL).toArray v B ∧
      ∀ target, Steps p.tables e below (B.U.setTop { g with pc := g.pc + 3, stack := v.toList ++ rest }) target → Steps p.tables e below (T.setTop g) target) ∨
    (∃ (q : Addr) (vm₁ : Vm) (B : Pt), s.WarmedH vm₁ ∧ Stand p l e R s m args below meth c B.U B.locs B.cells B.slots ∧ PostX ⟨T.setVm vm₁, locs, cells, slots⟩ (Value.ref a :: argsL).toArray q B ∧
      Steps p.tables e below (T.setTop g) ((B.U.setTop { g with stack := rest }).pushFrame (.throwing q))) := by
  subst hg
  have hpl : e.platform.magicAccessors = ({} : Platform).magicAccessors := by rw [X.admits.platform]
  obtain ⟨mk, methM, cM, kP, vm₁, hnamed, hmethM, hcodeM, -, hlocalsM, -, hkP, -, hW₁, hstep₁⟩ := Steps.initColdArgs (e := e) X.here hexec X.warmed hpl hown hy1 hy hlink hinst hcode (f := g) rfl hlen hstack hdg
  have X₁ := X.noted hW₁
  rcases hK g.method meth c ⟨T.setVm vm₁, locs, cells, slots⟩ { g with stack := rest } (.invokespecial index) mk (Value.ref a :: argsL).toArray X₁ rfl hsize hdg hW (X₁.named hnamed) (hpre vm₁ X₁.warmed) with ⟨v, B, X', hpost, hsteps⟩ | ⟨q, B, X', hpost, hsteps⟩
  · exact Or.inl ⟨v, vm₁, B, X₁.warmed, X', hpost, fun target h => hstep₁ _ fun acts => by rw [doInvoke_state]; exact hsteps.trans h⟩
  · exact Or.inr ⟨q, vm₁, B, X₁.warmed, X', hpost, hstep₁ _ fun acts => by rw [doInvoke_state]; exact hsteps⟩
end VXIA
section VXIB
variable {p : Program} {l : Launch} {e : Env} {R : Room} {s : State} {m : MethodId} {args : Array Value} {below : List Frame} {meth : Method} {c : Code} {H : Heap} {locs : List Loc} {cells slots : Nat}
variable {y : MethodName} {bytes cc : ByteArray} {maxL nL mc ms n index : Nat} {ret : Option FieldType} {ws : List Cond} {rm : Room} {Pc : Array Value → State → Prop} {Qc : Array Value → State → Outcome → State → Prop} {XC : String → State → State → Prop} {free : Addr → Prop} {Ts : List Cond} {own C : String} {b : Addr} {As rest : List Value} {g : JFrame}
theorem vx_runI (S : CallFix p m c cc nL s args Ts own) (hM : vx_Met l y ws rm Pc Qc XC mc ms free) (cw : CallB R s args own index y bytes maxL none ws rm mc ms n ∧ y.name = "<init>" ∧ (Cond.instanceMethod y).before args s = true) (hp : PreS s H Pc (.ref b :: As))
    (hg : g.method = m) (hn : As.length = n) (hsize : g.locals.size = nL) (hstack : g.stack = As.reverse ++ .ref b :: rest) (hW : 2 * g.monitorRoom + (rest.map fun v => v.category).sum ≤ 8) (hdg : decode cc g.pc = .ok (.invokespecial index, 3)) (hf : cells + mc ≤ R.cells ∧ slots + ms ≤ R.slots) :
    vx_Run p l e R s m args below meth c H locs cells slots mc ms g rest (Qc (Value.ref b :: As).toArray) XC free := by
  have hK : vx_Back l R p e below s args y 3 8 (PreOf R mc ms Pc) (PostOf Qc mc ms free) (vx_Post XC mc ms free) := vx_callBack cw.1 hM hp.1
  obtain ⟨⟨-, -, -, -, -, -, hcode, -, hy, hlen, hl⟩, hy1, hin⟩ := cw
  obtain ⟨hx, hb, hml, ho, -⟩ := S
  have hPc := hp.2
  intro T hT X
  rcases vx_callI X hx (bytes := bytes) (maxL := maxL) ho hy1 hl hin hcode hy hK hg (hsize.trans hml.symm) (a := b) (argsL := As) (rest := rest) (fun sig h => hn.trans (hlen sig h)) hstack hW (by rw [hb]; exact hdg)
    (fun vm₁ hW₁ => ⟨hf.1, hf.2, hPc (T.setVm vm₁) hT hW₁⟩) with ⟨v, vm₁, ⟨U', l2, c2, s2⟩, hW₁, X', ⟨g', mk, t, L, e1, e2, hq, h1, hL, h2, h3⟩, st⟩ | ⟨q, vm₁, ⟨U', l2, c2, s2⟩, hW₁, X', ⟨g', mk, t, L, E, ce, e1, e2, hq, hce, hcv, hcl, h1, hL, h2, h3⟩, st⟩
  · dsimp only [Pt.U, Pt.locs, Pt.cells, Pt.slots] at X' e1 e2 h1 h2 h3 st
    subst h1; subst h2; subst h3
    exact Or.inl ⟨v, (T.setVm vm₁).calling g' mk (Value.ref b :: As).toArray, t, U', L, hT, X', hL, e1, e2, hq, st⟩
  · dsimp only [Pt.U, Pt.locs, Pt.cells, Pt.slots] at X' e1 e2 h1 h2 h3 st hcl
    subst h1; subst h2; subst h3
    exact Or.inr ⟨q, (T.setVm vm₁).calling g' mk (Value.ref b :: As).toArray, t, U', L, E, ce, hT, X', hL, e1, e2, hq, hce, hcv, vx_cls hW₁ hcl, st⟩
end VXIB
/-! ===== END ===== -/
/-! ===== BEGIN a private constructor of a nest mate that throws ===== -/
section VXIC
variable {p : Program} {l : Launch} {e : Env} {R : Room} {s : State} {m : MethodId} {args : Array Value} {below : List Frame} {meth : Method} {c : Code} {T : State} {locs : List Loc} {cells slots : Nat}
theorem vx_callIN (X : Stand p l e R s m args below meth c T locs cells slots) (hexec : p.tables.exec = Jvm.exec) {own : String} {index : Nat} {host : String} {y : MethodName} {bytes : ByteArray} {maxL : Nat}
    (hown : s.vm.findClass own = some m.cls) (hy1 : y.name = "<init>") (hlink : (Cond.methodLinkNest own index y host).before args s = true) (hinst : (Cond.instanceMethod y).before args s = true)
    (hcode : (Cond.code y bytes maxL none).before args s = true) (hy : y.cls ≠ "java/lang/invoke/MethodHandle" ∧ y.cls ≠ "java/lang/invoke/VarHandle")
    {W9 : Nat} {Pre : Pt → Array Value → Prop} {Post : Pt → Array Value → Option Value → Pt → Prop} {PostX : Pt → Array Value → Addr → Pt → Prop} (hK : vx_Back l R p e below s args y 3 W9 Pre Post PostX)
    {g : JFrame} (hg : g.method = m) (hsize : g.locals.size = c.maxLocals) {a : Addr} {argsL rest : List Value} (hlen : ∀ sig, parseMethodDescriptor y.desc = some sig → argsL.length = sig.parameters.length)
    (hstack : g.stack = argsL.reverse ++ .ref a :: rest) (hW : 2 * g.monitorRoom + (rest.map fun v => v.category).sum ≤ W9) (hdg : decode c.code g.pc = .ok (.invokespecial index, 3))
    (hpre : ∀ vm₁, s.WarmedH vm₁ → Pre ⟨T.setVm vm₁, locs, cells, slots⟩ (Value.ref a :: argsL).toArray) :
    (∃ (v : Option Value) (vm₁ : Vm) (B : Pt), s.WarmedH vm₁ ∧ Stand p l e R s m args below meth c B.U B.locs B.cells B.slots ∧ Post ⟨T.setVm vm₁, locs, cells, slots⟩ (Value.ref a :: argsL).toArray v B ∧
      ∀ target, Steps p.tables e below (B.U.setTop { g with pc := g.pc + 3, stack := v.toList ++ rest }) target → Steps p.tables e below (T.setTop g) target) ∨
    (∃ (q : Addr) (vm₁ : Vm) (B : Pt), s.WarmedH vm₁ ∧ Stand p l e R s m args below meth c B.U B.locs B.cells B.slots ∧ PostX ⟨T.setVm vm₁, locs, cells, slots⟩ (Value.ref a :: argsL).toArray q B ∧
      Steps p.tables e below (T.setTop g) ((B.U.setTop { g with stack := rest }).pushFrame (.throwing q))) := by
  subst hg
  have hpl : e.platform.magicAccessors = ({} : Platform).magicAccessors := by rw [X.admits.platform]
  obtain ⟨mk, methM, cM, kP, vm₁, hnamed, hmethM, hcodeM, -, hlocalsM, -, hkP, -, hW₁, hstep₁⟩ := Steps.initColdArgsNest (e := e) X.here hexec X.warmed hpl hown hy1 hy hlink hinst hcode (f := g) rfl hlen hstack hdg
  have X₁ := X.noted hW₁
  rcases hK g.method meth c ⟨T.setVm vm₁, locs, cells, slots⟩ { g with stack := rest } (.invokespecial index) mk (Value.ref a :: argsL).toArray X₁ rfl hsize hdg hW (X₁.named hnamed) (hpre vm₁ X₁.warmed) with ⟨v, B, X', hpost, hsteps⟩ | ⟨q, B, X', hpost, hsteps⟩
  · exact Or.inl ⟨v, vm₁, B, X₁.warmed, X', hpost, fun target h => hstep₁ _ fun acts => by rw [doInvoke_state]; exact hsteps.trans h⟩
  · exact Or.inr ⟨q, vm₁, B, X₁.warmed, X', hpost, hstep₁ _ fun acts => by rw [doInvoke_state]; exact hsteps⟩
end VXIC
section VXID
variable {p : Program} {l : Launch} {e : Env} {R : Room} {s : State} {m : MethodId} {args : Array Value} {below : List Frame} {meth : Method} {c : Code} {H : Heap} {locs : List Loc} {cells slots : Nat}
theorem vx_runIN {y : MethodName} {bytes cc : ByteArray} {maxL nL mc ms n index : Nat} {ws : List Cond} {rm : Room} {Pc : Array Value → State → Prop} {Qc : Array Value → State → Outcome → State → Prop} {XC : String → State → State → Prop} {free : Addr → Prop} {Ts : List Cond} {own host : String} {b : Addr} {As rest : List Value} {g : JFrame}
    (S : CallFix p m c cc nL s args Ts own) (hM : vx_Met l y ws rm Pc Qc XC mc ms free) (cw : va_CN R s args own index y host bytes maxL none ws rm mc ms n ∧ y.name = "<init>" ∧ (Cond.instanceMethod y).before args s = true) (hp : PreS s H Pc (.ref b :: As))
    (hg : g.method = m) (hn : As.length = n) (hsize : g.locals.size = nL) (hstack : g.stack = As.reverse ++ .ref b :: rest) (hW : 2 * g.monitorRoom + (rest.map fun v => v.category).sum ≤ 8) (hdg : decode cc g.pc = .ok (.invokespecial index, 3)) (hf : cells + mc ≤ R.cells ∧ slots + ms ≤ R.slots) :
    vx_Run p l e R s m args below meth c H locs cells slots mc ms g rest (Qc (Value.ref b :: As).toArray) XC free := by
  obtain ⟨⟨⟨hrc, hrs, hfr, hlo, hws, hcw⟩, hcode, hini, hy, hlen, hl⟩, hx1, hx2⟩ := cw
  have hK : vx_Back l R p e below s args y 3 8 (PreOf R mc ms Pc) (PostOf Qc mc ms free) (vx_Post XC mc ms free) := vx_back (bytes := bytes) (maxL := maxL) (ret := none) hM hp.1 hrc hrs hfr hlo hws hcw (fun a' U hW => word_at hW (Or.inl (by first | rfl | simp [Cond.onTables, Cond.keeps, Cond.steady])) hini)
  obtain ⟨hx, hb, hml, ho, -⟩ := S
  have hPc := hp.2
  intro T hT X
  rcases vx_callIN X hx (bytes := bytes) (maxL := maxL) ho hx1 hl hx2 hcode hy hK hg (hsize.trans hml.symm) (a := b) (argsL := As) (rest := rest) (fun sig h => hn.trans (hlen sig h)) hstack hW (by rw [hb]; exact hdg)
    (fun vm₁ hW₁ => ⟨hf.1, hf.2, hPc (T.setVm vm₁) hT hW₁⟩) with ⟨v, vm₁, ⟨U', l2, c2, s2⟩, hW₁, X', ⟨g', mk, t, L, e1, e2, hq, h1, hL, h2, h3⟩, st⟩ | ⟨q, vm₁, ⟨U', l2, c2, s2⟩, hW₁, X', ⟨g', mk, t, L, E, ce, e1, e2, hq, hce, hcv, hcl, h1, hL, h2, h3⟩, st⟩
  · dsimp only [Pt.U, Pt.locs, Pt.cells, Pt.slots] at X' e1 e2 h1 h2 h3 st
    subst h1; subst h2; subst h3
    exact Or.inl ⟨v, (T.setVm vm₁).calling g' mk (Value.ref b :: As).toArray, t, U', L, hT, X', hL, e1, e2, hq, st⟩
  · dsimp only [Pt.U, Pt.locs, Pt.cells, Pt.slots] at X' e1 e2 h1 h2 h3 st hcl
    subst h1; subst h2; subst h3
    exact Or.inr ⟨q, (T.setVm vm₁).calling g' mk (Value.ref b :: As).toArray, t, U', L, E, ce, hT, X', hL, e1, e2, hq, hce, hcv, vx_cls hW₁ hcl, st⟩
end VXID
/-! ===== END ===== -/
/-! ===== BEGIN a private method of a nest mate that may throw (follows va_callVN, va_callSN, va_runVN, va_runSN) ===== -/
section
variable {p : Program} {l : Launch} {e : Env} {R : Room} {s : State} {m : MethodId} {args : Array Value} {below : List Frame} {meth : Method} {c : Code} {H : Heap} {locs : List Loc} {cells slots : Nat}
variable {T : State}
theorem vx_callVN (X : Stand p l e R s m args below meth c T locs cells slots) (hexec : p.tables.exec = Jvm.exec) {own C : String} {index : Nat} {host : String} {y : MethodName} {bytes : ByteArray} {maxL : Nat} {ret : Option FieldType}
    (hown : s.vm.findClass own = some m.cls) (hlink : (Cond.methodLinkNest own index y host).before args s = true) (hinst : (Cond.instanceMethod y).before args s = true) (hsel : (Cond.selects C y y).before args s = true)
    (hcode : (Cond.code y bytes maxL ret).before args s = true) (hy : y.cls ≠ "java/lang/invoke/MethodHandle" ∧ y.cls ≠ "java/lang/invoke/VarHandle")
    {W : Nat} {Pre : Pt → Array Value → Prop} {Post : Pt → Array Value → Option Value → Pt → Prop} {PostX : Pt → Array Value → Addr → Pt → Prop} (hK : vx_Back l R p e below s args y 3 W Pre Post PostX)
    {b : Addr} {cellB : Cell} (hcell : T.heap[b]? = some cellB) (hobj : cellB.vm.isStatics = false) (hcls : s.vm.findClass C = some cellB.cls)
    {g : JFrame} (hg : g.method = m) (hsize : g.locals.size = c.maxLocals) {argsL rest : List Value} (hlen : ∀ sig, parseMethodDescriptor y.desc = some sig → argsL.length = sig.parameters.length)
    (hstack : g.stack = argsL.reverse ++ .ref b :: rest) (hW : 2 * g.monitorRoom + (rest.map fun v => v.category).sum ≤ W) (hdg : decode c.code g.pc = .ok (.invokevirtual index, 3))
    (hpre : ∀ vm₁, s.WarmedH vm₁ → Pre ⟨T.setVm vm₁, locs, cells, slots⟩ (Value.ref b :: argsL).toArray) :
    (∃ (v : Option Value) (vm₁ : Vm) (B : Pt), s.WarmedH vm₁ ∧ Stand p l e R s m args below meth c B.U B.locs B.cells B.slots ∧ Post ⟨T.setVm vm₁, locs, cells, slots⟩ (Value.ref b :: argsL).toArray v B ∧
      ∀ target, Steps p.tables e below (B.U.setTop { g with pc := g.pc + 3, stack := v.toList ++ rest }) target → Steps p.tables e below (T.setTop g) target) ∨
    (∃ (q : Addr) (vm₁ : Vm) (B : Pt), s.WarmedH vm₁ ∧ Stand p l e R s m args below meth c B.U B.locs B.cells B.slots ∧ PostX ⟨T.setVm vm₁, locs, cells, slots⟩ (Value.ref b :: argsL).toArray q B ∧
      Steps p.tables e below (T.setTop g) ((B.U.setTop { g with stack := rest }).pushFrame (.throwing q))) := by
  obtain ⟨mk, methM, hnamed, hmethM, hstM, habM⟩ := Cond.instanceMethod_spec hinst
  obtain ⟨methM', cM, hmethM', -, -, -, -, -, -, hsigM⟩ := Cond.code_spec hnamed hcode
  cases hmethM.symm.trans hmethM'
  obtain ⟨c2, r2, m2, q1, q2, q3, q4, kP, hkP, hkPi⟩ := Cond.selects_spec hsel
  cases hcls.symm.trans q1
  cases (State.methodFound?_of_named hnamed hy).symm.trans q2
  cases hnamed.symm.trans q3
  have hselP : selectMethod e.platform s.vm cellB.cls mk = .method mk := by rw [Launch.admits_selectMethod X.admits]; exact q4
  obtain ⟨vm₁, X₁, hstep₁⟩ := X.invokevirtualNest hexec hown hlink hnamed hmethM hstM hkP hkPi hy (a := b) (cell := cellB) hcell
    (fun z h => by rw [h] at hobj; cases hobj) hselP hmethM habM hkP hkPi (g := g) hg (argsL := argsL) (rest := rest) (hlen _ hsigM) hstack hdg
  rcases hK m meth c ⟨T.setVm vm₁, locs, cells, slots⟩ { g with stack := rest } (.invokevirtual index) mk (Value.ref b :: argsL).toArray X₁ hg hsize hdg hW (X₁.named hnamed) (hpre vm₁ X₁.warmed) with ⟨v, B, X', hpost, hsteps⟩ | ⟨q, B, X', hpost, hsteps⟩
  · exact Or.inl ⟨v, vm₁, B, X₁.warmed, X', hpost, fun target h => hstep₁ _ fun acts => by rw [doInvoke_state]; exact hsteps.trans h⟩
  · exact Or.inr ⟨q, vm₁, B, X₁.warmed, X', hpost, hstep₁ _ fun acts => by rw [doInvoke_state]; exact hsteps⟩
theorem vx_callSN (X : Stand p l e R s m args below meth c T locs cells slots) (hexec : p.tables.exec = Jvm.exec) {own : String} {index : Nat} {host : String} {y : MethodName} {bytes : ByteArray} {maxL : Nat} {ret : Option FieldType}
    (hown : s.vm.findClass own = some m.cls) (hlink : (Cond.methodLinkNest own index y host).before args s = true) (hstat : (Cond.static y).before args s = true) (hinit : (Cond.initialized y.cls).before args s = true)
    (hcode : (Cond.code y bytes maxL ret).before args s = true) (hy : y.cls ≠ "java/lang/invoke/MethodHandle" ∧ y.cls ≠ "java/lang/invoke/VarHandle")
    {W : Nat} {Pre : Pt → Array Value → Prop} {Post : Pt → Array Value → Option Value → Pt → Prop} {PostX : Pt → Array Value → Addr → Pt → Prop} (hK : vx_Back l R p e below s args y 3 W Pre Post PostX)
    {g : JFrame} (hg : g.method = m) (hsize : g.locals.size = c.maxLocals) {argsL rest : List Value} (hlen : ∀ sig, parseMethodDescriptor y.desc = some sig → argsL.length = sig.parameters.length)
    (hstack : g.stack = argsL.reverse ++ rest) (hW : 2 * g.monitorRoom + (rest.map fun v => v.category).sum ≤ W) (hdg : decode c.code g.pc = .ok (.invokestatic index, 3))
    (hpre : ∀ vm₁, s.WarmedH vm₁ → Pre ⟨T.setVm vm₁, locs, cells, slots⟩ argsL.toArray) :
    (∃ (v : Option Value) (vm₁ : Vm) (B : Pt), s.WarmedH vm₁ ∧ Stand p l e R s m args below meth c B.U B.locs B.cells B.slots ∧ Post ⟨T.setVm vm₁, locs, cells, slots⟩ argsL.toArray v B ∧
      ∀ target, Steps p.tables e below (B.U.setTop { g with pc := g.pc + 3, stack := v.toList ++ rest }) target → Steps p.tables e below (T.setTop g) target) ∨
    (∃ (q : Addr) (vm₁ : Vm) (B : Pt), s.WarmedH vm₁ ∧ Stand p l e R s m args below meth c B.U B.locs B.cells B.slots ∧ PostX ⟨T.setVm vm₁, locs, cells, slots⟩ argsL.toArray q B ∧
      Steps p.tables e below (T.setTop g) ((B.U.setTop { g with stack := rest }).pushFrame (.throwing q))) := by
  obtain ⟨mk, hnamed⟩ := Cond.code_named hcode
  obtain ⟨methM, cM, hmethM, -, -, -, -, -, -, hsigM⟩ := Cond.code_spec hnamed hcode
  have hstatic : methM.isStatic = true := Cond.static_spec hnamed hmethM hstat
  obtain ⟨kP, hkP, -⟩ := className_of_methodNamed hnamed
  have hinitP : kP.init = .initialized := Cond.initialized_spec (findClass_of_methodNamed hnamed) hkP hinit
  obtain ⟨vm₁, X₁, hstep₁⟩ := X.invokestaticNest hexec hown hlink hnamed hmethM hstatic hkP hinitP hy (g := g) hg (argsL := argsL) (rest := rest) (hlen _ hsigM) hstack hdg
  rcases hK m meth c ⟨T.setVm vm₁, locs, cells, slots⟩ { g with stack := rest } (.invokestatic index) mk argsL.toArray X₁ hg hsize hdg hW (X₁.named hnamed) (hpre vm₁ X₁.warmed) with ⟨v, B, X', hpost, hsteps⟩ | ⟨q, B, X', hpost, hsteps⟩
  · exact Or.inl ⟨v, vm₁, B, X₁.warmed, X', hpost, fun target h => hstep₁ _ fun acts => by rw [doInvoke_state]; exact hsteps.trans h⟩
  · exact Or.inr ⟨q, vm₁, B, X₁.warmed, X', hpost, hstep₁ _ fun acts => by rw [doInvoke_state]; exact hsteps⟩
theorem vx_runVN {y : MethodName} {bytes cc : ByteArray} {maxL nL mc ms n index : Nat} {ret : Option FieldType} {ws : List Cond} {rm : Room} {Pc : Array Value → State → Prop} {Qc : Array Value → State → Outcome → State → Prop} {XC : String → State → State → Prop} {free : Addr → Prop} {Ts : List Cond} {own C host : String} {b : Addr} {As rest : List Value} {g : JFrame}
    (S : CallFix p m c cc nL s args Ts own) (hM : vx_Met l y ws rm Pc Qc XC mc ms free) (cw : va_CN R s args own index y host bytes maxL ret ws rm mc ms n ∧ (Cond.instanceMethod y).before args s = true ∧ (Cond.selects C y y).before args s = true) (hp : PreV s H C b Pc As)
    (hg : g.method = m) (hn : As.length = n) (hsize : g.locals.size = nL) (hstack : g.stack = As.reverse ++ .ref b :: rest) (hW : 2 * g.monitorRoom + (rest.map fun v => v.category).sum ≤ 8) (hdg : decode cc g.pc = .ok (.invokevirtual index, 3)) (hf : cells + mc ≤ R.cells ∧ slots + ms ≤ R.slots) :
    vx_Run p l e R s m args below meth c H locs cells slots mc ms g rest (Qc (Value.ref b :: As).toArray) XC free := by
  obtain ⟨⟨⟨hrc, hrs, hfr, hlo, hws, hcw⟩, hcode, hini, hy, hlen, hl⟩, hx1, hx2⟩ := cw
  have hK : vx_Back l R p e below s args y 3 8 (PreOf R mc ms Pc) (PostOf Qc mc ms free) (vx_Post XC mc ms free) := vx_back (bytes := bytes) (maxL := maxL) (ret := ret) hM hp.1 hrc hrs hfr hlo hws hcw (fun a' U hW => word_at hW (Or.inl (by first | rfl | simp [Cond.onTables, Cond.keeps, Cond.steady])) hini)
  obtain ⟨hx, hb, hml, ho, -⟩ := S
  obtain ⟨-, ⟨cellB, hcB, hoB, hclB⟩, hPc⟩ := hp
  intro T hT X
  rcases vx_callVN X hx (C := C) (bytes := bytes) (maxL := maxL) (ret := ret) ho hl hx1 hx2 hcode hy hK (by rw [hT]; exact hcB) hoB hclB hg (hsize.trans hml.symm) (argsL := As) (rest := rest) (fun sig h => hn.trans (hlen sig h)) hstack hW (by rw [hb]; exact hdg)
    (fun vm₁ hW₁ => ⟨hf.1, hf.2, hPc (T.setVm vm₁) hT hW₁⟩) with ⟨v, vm₁, ⟨U', l2, c2, s2⟩, hW₁, X', ⟨g', mk, t, L, e1, e2, hq, h1, hL, h2, h3⟩, st⟩ | ⟨q, vm₁, ⟨U', l2, c2, s2⟩, hW₁, X', ⟨g', mk, t, L, E, ce, e1, e2, hq, hce, hcv, hcl, h1, hL, h2, h3⟩, st⟩
  · dsimp only [Pt.U, Pt.locs, Pt.cells, Pt.slots] at X' e1 e2 h1 h2 h3 st
    subst h1; subst h2; subst h3
    exact Or.inl ⟨v, (T.setVm vm₁).calling g' mk (Value.ref b :: As).toArray, t, U', L, hT, X', hL, e1, e2, hq, st⟩
  · dsimp only [Pt.U, Pt.locs, Pt.cells, Pt.slots] at X' e1 e2 h1 h2 h3 st hcl
    subst h1; subst h2; subst h3
    exact Or.inr ⟨q, (T.setVm vm₁).calling g' mk (Value.ref b :: As).toArray, t, U', L, E, ce, hT, X', hL, e1, e2, hq, hce, hcv, vx_cls hW₁ hcl, st⟩
theorem vx_runSN {y : MethodName} {bytes cc : ByteArray} {maxL nL mc ms n index : Nat} {ret : Option FieldType} {ws : List Cond} {rm : Room} {Pc : Array Value → State → Prop} {Qc : Array Value → State → Outcome → State → Prop} {XC : String → State → State → Prop} {free : Addr → Prop} {Ts : List Cond} {own host : String} {As rest : List Value} {g : JFrame}
    (S : CallFix p m c cc nL s args Ts own) (hM : vx_Met l y ws rm Pc Qc XC mc ms free) (cw : va_CN R s args own index y host bytes maxL ret ws rm mc ms n ∧ (Cond.static y).before args s = true ∧ True) (hp : PreS s H Pc As)
    (hg : g.method = m) (hn : As.length = n) (hsize : g.locals.size = nL) (hstack : g.stack = As.reverse ++ rest) (hW : 2 * g.monitorRoom + (rest.map fun v => v.category).sum ≤ 8) (hdg : decode cc g.pc = .ok (.invokestatic index, 3)) (hf : cells + mc ≤ R.cells ∧ slots + ms ≤ R.slots) :
    vx_Run p l e R s m args below meth c H locs cells slots mc ms g rest (Qc As.toArray) XC free := by
  obtain ⟨⟨⟨hrc, hrs, hfr, hlo, hws, hcw⟩, hcode, hini, hy, hlen, hl⟩, hx1, hx2⟩ := cw
  have hK : vx_Back l R p e below s args y 3 8 (PreOf R mc ms Pc) (PostOf Qc mc ms free) (vx_Post XC mc ms free) := vx_back (bytes := bytes) (maxL := maxL) (ret := ret) hM hp.1 hrc hrs hfr hlo hws hcw (fun a' U hW => word_at hW (Or.inl (by first | rfl | simp [Cond.onTables, Cond.keeps, Cond.steady])) hini)
  obtain ⟨hx, hb, hml, ho, -⟩ := S
  have hPc := hp.2
  intro T hT X
  rcases vx_callSN X hx (bytes := bytes) (maxL := maxL) (ret := ret) ho hl hx1 hini hcode hy hK hg (hsize.trans hml.symm) (argsL := As) (rest := rest) (fun sig h => hn.trans (hlen sig h)) hstack hW (by rw [hb]; exact hdg)
    (fun vm₁ hW₁ => ⟨hf.1, hf.2, hPc (T.setVm vm₁) hT hW₁⟩) with ⟨v, vm₁, ⟨U', l2, c2, s2⟩, hW₁, X', ⟨g', mk, t, L, e1, e2, hq, h1, hL, h2, h3⟩, st⟩ | ⟨q, vm₁, ⟨U', l2, c2, s2⟩, hW₁, X', ⟨g', mk, t, L, E, ce, e1, e2, hq, hce, hcv, hcl, h1, hL, h2, h3⟩, st⟩
  · dsimp only [Pt.U, Pt.locs, Pt.cells, Pt.slots] at X' e1 e2 h1 h2 h3 st
    subst h1; subst h2; subst h3
    exact Or.inl ⟨v, (T.setVm vm₁).calling g' mk As.toArray, t, U', L, hT, X', hL, e1, e2, hq, st⟩
  · dsimp only [Pt.U, Pt.locs, Pt.cells, Pt.slots] at X' e1 e2 h1 h2 h3 st hcl
    subst h1; subst h2; subst h3
    exact Or.inr ⟨q, (T.setVm vm₁).calling g' mk As.toArray, t, U', L, E, ce, hT, X', hL, e1, e2, hq, hce, hcv, vx_cls hW₁ hcl, st⟩
end
/-! ===== END ===== -/
end
section
/-! ===== END ===== -/

/-! ===== BEGIN printed: names, fields, word lists, decode rows ===== -/
def RX0 : String := "BillOfMaterials$Bill"
def TX0 : u_T := fun k => match k with
  | 0 => ("BillOfMaterials$Bill", "parts", "LBillOfMaterials$PartTable;", true)
  | 1 => ("BillOfMaterials$Bill", "lines", "LBillOfMaterials$LineTable;", true)
  | 2 => ("BillOfMaterials$Bill", "childSets", "[I", true)
  | 3 => ("BillOfMaterials$Bill", "parentSets", "[I", true)
  | 4 => ("BillOfMaterials$Bill", "heldChildSets", "[I", true)
  | _ => ("BillOfMaterials$Bill", "heldLines", "[I", true)
def tyX0 : Nat → FieldType := fun k => match k with
  | 0 => .object "BillOfMaterials$PartTable"
  | 1 => .object "BillOfMaterials$LineTable"
  | 2 => .array .int
  | 3 => .array .int
  | 4 => .array .int
  | _ => .array .int
abbrev wsX00 : List Cond := u_ws RX0 TX0 6
theorem nmX0 : ∀ a, a < 6 → ∀ b, b < 6 → a ≠ b → (TX0 a).2.1 ≠ (TX0 b).2.1 := by decide +kernel
theorem tyX0_ok : ∀ k, k < 6 → parseFieldDescriptor (TX0 k).2.2.1 = some (tyX0 k) := by decide +kernel
abbrev cX0_init : ByteArray := prog_2_method_1_code
def yX0_init : MethodName := ⟨RX0, "<init>", "()V"⟩
abbrev cX0_add : ByteArray := prog_2_method_2_code
def yX0_add : MethodName := ⟨RX0, "add", "(IIII)I"⟩
abbrev cX0_select : ByteArray := prog_2_method_3_code
def yX0_select : MethodName := ⟨RX0, "select", "(II)V"⟩
abbrev cX0_heldLine : ByteArray := prog_2_method_4_code
def yX0_heldLine : MethodName := ⟨RX0, "heldLine", "(II)I"⟩
abbrev cX0_hasHeldChildrenIn : ByteArray := prog_2_method_5_code
def yX0_hasHeldChildrenIn : MethodName := ⟨RX0, "hasHeldChildrenIn", "(II)Z"⟩
abbrev cX0_levelsBelow : ByteArray := prog_2_method_6_code
def yX0_levelsBelow : MethodName := ⟨RX0, "levelsBelow", "(I)I"⟩
abbrev cX0_levelsAbove : ByteArray := prog_2_method_7_code
def yX0_levelsAbove : MethodName := ⟨RX0, "levelsAbove", "(I)I"⟩
abbrev cX0_heldLevelsBelow : ByteArray := prog_2_method_8_code
def yX0_heldLevelsBelow : MethodName := ⟨RX0, "heldLevelsBelow", "(I)I"⟩
abbrev cX0_isWithin : ByteArray := prog_2_method_9_code
def yX0_isWithin : MethodName := ⟨RX0, "isWithin", "(II)Z"⟩
abbrev cX0_isShallow : ByteArray := prog_2_method_10_code
def yX0_isShallow : MethodName := ⟨RX0, "isShallow", "()Z"⟩
abbrev cX0_hasSoundSets : ByteArray := prog_2_method_11_code
def yX0_hasSoundSets : MethodName := ⟨RX0, "hasSoundSets", "()Z"⟩
abbrev cX0_placeOf : ByteArray := prog_2_method_12_code
def yX0_placeOf : MethodName := ⟨RX0, "placeOf", "(II)I"⟩
abbrev cX0_stepsFrom : ByteArray := prog_2_method_13_code
def yX0_stepsFrom : MethodName := ⟨RX0, "stepsFrom", "([II)I"⟩
abbrev cX0_unionOf : ByteArray := prog_2_method_14_code
def yX0_unionOf : MethodName := ⟨RX0, "unionOf", "([II)I"⟩
def RX1 : String := "BillOfMaterials$Bits"
def TX1 : u_T := fun k => match k with
  | _ => ("", "", "", false)
def tyX1 : Nat → FieldType := fun k => match k with
  | _ => .int
abbrev wsX10 : List Cond := u_ws RX1 TX1 0
theorem nmX1 : ∀ a, a < 0 → ∀ b, b < 0 → a ≠ b → (TX1 a).2.1 ≠ (TX1 b).2.1 := by decide +kernel
theorem tyX1_ok : ∀ k, k < 0 → parseFieldDescriptor (TX1 k).2.2.1 = some (tyX1 k) := by decide +kernel
abbrev cX1_ofFloat : ByteArray := prog_3_method_2_code
def yX1_ofFloat : MethodName := ⟨RX1, "ofFloat", "(F)I"⟩
abbrev cX1_ofDouble : ByteArray := prog_3_method_3_code
def yX1_ofDouble : MethodName := ⟨RX1, "ofDouble", "(D)J"⟩
def RX2 : String := "BillOfMaterials$CostRollUp"
def TX2 : u_T := fun k => match k with
  | _ => ("BillOfMaterials$CostRollUp", "costs", "[F", true)
def tyX2 : Nat → FieldType := fun k => match k with
  | _ => .array .float
abbrev wsX20 : List Cond := u_ws RX2 TX2 1
theorem nmX2 : ∀ a, a < 1 → ∀ b, b < 1 → a ≠ b → (TX2 a).2.1 ≠ (TX2 b).2.1 := by decide +kernel
theorem tyX2_ok : ∀ k, k < 1 → parseFieldDescriptor (TX2 k).2.2.1 = some (tyX2 k) := by decide +kernel
abbrev cX2_init : ByteArray := prog_4_method_1_code
def yX2_init : MethodName := ⟨RX2, "<init>", "()V"⟩
abbrev cX2_rollUp : ByteArray := prog_4_method_2_code
def yX2_rollUp : MethodName := ⟨RX2, "rollUp", "(LBillOfMaterials$Bill;)V"⟩
abbrev cX2_dearestLine : ByteArray := prog_4_method_3_code
def yX2_dearestLine : MethodName := ⟨RX2, "dearestLine", "(LBillOfMaterials$Bill;I)I"⟩
abbrev cX2_costOf : ByteArray := prog_4_method_4_code
def yX2_costOf : MethodName := ⟨RX2, "costOf", "(LBillOfMaterials$Bill;I)F"⟩
abbrev cX2_addedBy : ByteArray := prog_4_method_5_code
def yX2_addedBy : MethodName := ⟨RX2, "addedBy", "(LBillOfMaterials$Bill;I)F"⟩
def RX3 : String := "BillOfMaterials$DirectList"
def TX3 : u_T := fun k => match k with
  | 0 => ("BillOfMaterials$DirectList", "entryParts", "[I", false)
  | 1 => ("BillOfMaterials$DirectList", "entryQuantities", "[J", false)
  | _ => ("BillOfMaterials$DirectList", "size", "I", false)
def tyX3 : Nat → FieldType := fun k => match k with
  | 0 => .array .int
  | 1 => .array .long
  | _ => .int
abbrev wsX30 : List Cond := u_ws RX3 TX3 3
theorem nmX3 : ∀ a, a < 3 → ∀ b, b < 3 → a ≠ b → (TX3 a).2.1 ≠ (TX3 b).2.1 := by decide +kernel
theorem tyX3_ok : ∀ k, k < 3 → parseFieldDescriptor (TX3 k).2.2.1 = some (tyX3 k) := by decide +kernel
abbrev cX3_init : ByteArray := prog_5_method_1_code
def yX3_init : MethodName := ⟨RX3, "<init>", "()V"⟩
abbrev cX3_clear : ByteArray := prog_5_method_2_code
def yX3_clear : MethodName := ⟨RX3, "clear", "()V"⟩
abbrev cX3_add : ByteArray := prog_5_method_3_code
def yX3_add : MethodName := ⟨RX3, "add", "(IJ)V"⟩
abbrev cX3_grow : ByteArray := prog_5_method_4_code
def yX3_grow : MethodName := ⟨RX3, "grow", "()V"⟩
def RX4 : String := "BillOfMaterials$LineTable"
def TX4 : u_T := fun k => match k with
  | 0 => ("BillOfMaterials$LineTable", "parents", "[I", true)
  | 1 => ("BillOfMaterials$LineTable", "positions", "[I", true)
  | 2 => ("BillOfMaterials$LineTable", "children", "[I", true)
  | 3 => ("BillOfMaterials$LineTable", "quantities", "[I", true)
  | 4 => ("BillOfMaterials$LineTable", "scraps", "[I", true)
  | 5 => ("BillOfMaterials$LineTable", "firstSerials", "[I", true)
  | 6 => ("BillOfMaterials$LineTable", "lastSerials", "[I", true)
  | 7 => ("BillOfMaterials$LineTable", "options", "[I", true)
  | 8 => ("BillOfMaterials$LineTable", "choiceSets", "[I", true)
  | _ => ("BillOfMaterials$LineTable", "count", "I", false)
def tyX4 : Nat → FieldType := fun k => match k with
  | 0 => .array .int
  | 1 => .array .int
  | 2 => .array .int
  | 3 => .array .int
  | 4 => .array .int
  | 5 => .array .int
  | 6 => .array .int
  | 7 => .array .int
  | 8 => .array .int
  | _ => .int
abbrev wsX40 : List Cond := u_ws RX4 TX4 10
theorem nmX4 : ∀ a, a < 10 → ∀ b, b < 10 → a ≠ b → (TX4 a).2.1 ≠ (TX4 b).2.1 := by decide +kernel
theorem tyX4_ok : ∀ k, k < 10 → parseFieldDescriptor (TX4 k).2.2.1 = some (tyX4 k) := by decide +kernel
abbrev cX4_init : ByteArray := prog_6_method_1_code
def yX4_init : MethodName := ⟨RX4, "<init>", "()V"⟩
abbrev cX4_add : ByteArray := prog_6_method_2_code
def yX4_add : MethodName := ⟨RX4, "add", "(IIII)I"⟩
abbrev cX4_setRange : ByteArray := prog_6_method_3_code
def yX4_setRange : MethodName := ⟨RX4, "setRange", "(III)V"⟩
abbrev cX4_setCondition : ByteArray := prog_6_method_4_code
def yX4_setCondition : MethodName := ⟨RX4, "setCondition", "(III)V"⟩
abbrev cX4_isHolding : ByteArray := prog_6_method_5_code
def yX4_isHolding : MethodName := ⟨RX4, "isHolding", "(III)Z"⟩
abbrev cX4_isAt : ByteArray := prog_6_method_6_code
def yX4_isAt : MethodName := ⟨RX4, "isAt", "(III)Z"⟩
abbrev cX4_overlaps : ByteArray := prog_6_method_7_code
def yX4_overlaps : MethodName := ⟨RX4, "overlaps", "(III)Z"⟩
abbrev cX4_sharesConfiguration : ByteArray := prog_6_method_8_code
def yX4_sharesConfiguration : MethodName := ⟨RX4, "sharesConfiguration", "(III)Z"⟩
abbrev cX4_addedCost : ByteArray := prog_6_method_9_code
def yX4_addedCost : MethodName := ⟨RX4, "addedCost", "(IF)F"⟩
abbrev cX4_isSound : ByteArray := prog_6_method_10_code
def yX4_isSound : MethodName := ⟨RX4, "isSound", "(I)Z"⟩
abbrev cX4_isSoundLine : ByteArray := prog_6_method_11_code
def yX4_isSoundLine : MethodName := ⟨RX4, "isSoundLine", "(II)Z"⟩
abbrev cX4_isUnique : ByteArray := prog_6_method_12_code
def yX4_isUnique : MethodName := ⟨RX4, "isUnique", "()Z"⟩
def RX5 : String := "BillOfMaterials$OrderBook"
def TX5 : u_T := fun k => match k with
  | 0 => ("BillOfMaterials$OrderBook", "orderedParts", "[I", true)
  | 1 => ("BillOfMaterials$OrderBook", "serials", "[I", true)
  | 2 => ("BillOfMaterials$OrderBook", "units", "[I", true)
  | 3 => ("BillOfMaterials$OrderBook", "configurations", "[I", true)
  | 4 => ("BillOfMaterials$OrderBook", "cancelled", "[Z", true)
  | _ => ("BillOfMaterials$OrderBook", "count", "I", false)
def tyX5 : Nat → FieldType := fun k => match k with
  | 0 => .array .int
  | 1 => .array .int
  | 2 => .array .int
  | 3 => .array .int
  | 4 => .array .boolean
  | _ => .int
abbrev wsX50 : List Cond := u_ws RX5 TX5 6
theorem nmX5 : ∀ a, a < 6 → ∀ b, b < 6 → a ≠ b → (TX5 a).2.1 ≠ (TX5 b).2.1 := by decide +kernel
theorem tyX5_ok : ∀ k, k < 6 → parseFieldDescriptor (TX5 k).2.2.1 = some (tyX5 k) := by decide +kernel
abbrev cX5_init : ByteArray := prog_7_method_1_code
def yX5_init : MethodName := ⟨RX5, "<init>", "()V"⟩
abbrev cX5_add : ByteArray := prog_7_method_2_code
def yX5_add : MethodName := ⟨RX5, "add", "(IIII)I"⟩
abbrev cX5_countOpen : ByteArray := prog_7_method_3_code
def yX5_countOpen : MethodName := ⟨RX5, "countOpen", "()I"⟩
abbrev cX5_isSound : ByteArray := prog_7_method_4_code
def yX5_isSound : MethodName := ⟨RX5, "isSound", "(I)Z"⟩
def RX6 : String := "BillOfMaterials$OutputLine"
def TX6 : u_T := fun k => match k with
  | 0 => ("BillOfMaterials$OutputLine", "text", "[C", false)
  | _ => ("BillOfMaterials$OutputLine", "size", "I", false)
def tyX6 : Nat → FieldType := fun k => match k with
  | 0 => .array .char
  | _ => .int
abbrev wsX60 : List Cond := u_ws RX6 TX6 2
theorem nmX6 : ∀ a, a < 2 → ∀ b, b < 2 → a ≠ b → (TX6 a).2.1 ≠ (TX6 b).2.1 := by decide +kernel
theorem tyX6_ok : ∀ k, k < 2 → parseFieldDescriptor (TX6 k).2.2.1 = some (tyX6 k) := by decide +kernel
abbrev cX6_init : ByteArray := prog_8_method_1_code
def yX6_init : MethodName := ⟨RX6, "<init>", "()V"⟩
abbrev cX6_clear : ByteArray := prog_8_method_2_code
def yX6_clear : MethodName := ⟨RX6, "clear", "()V"⟩
abbrev cX6_put : ByteArray := prog_8_method_3_code
def yX6_put : MethodName := ⟨RX6, "put", "(C)V"⟩
abbrev cX6_putNumber : ByteArray := prog_8_method_4_code
def yX6_putNumber : MethodName := ⟨RX6, "putNumber", "(J)V"⟩
abbrev cX6_makeRoom : ByteArray := prog_8_method_5_code
def yX6_makeRoom : MethodName := ⟨RX6, "makeRoom", "(I)V"⟩
def RX7 : String := "BillOfMaterials$PartTable"
def TX7 : u_T := fun k => match k with
  | 0 => ("BillOfMaterials$PartTable", "kinds", "[C", true)
  | 1 => ("BillOfMaterials$PartTable", "cents", "[I", true)
  | 2 => ("BillOfMaterials$PartTable", "grams", "[I", true)
  | _ => ("BillOfMaterials$PartTable", "count", "I", false)
def tyX7 : Nat → FieldType := fun k => match k with
  | 0 => .array .char
  | 1 => .array .int
  | 2 => .array .int
  | _ => .int
abbrev wsX70 : List Cond := u_ws RX7 TX7 4
theorem nmX7 : ∀ a, a < 4 → ∀ b, b < 4 → a ≠ b → (TX7 a).2.1 ≠ (TX7 b).2.1 := by decide +kernel
theorem tyX7_ok : ∀ k, k < 4 → parseFieldDescriptor (TX7 k).2.2.1 = some (tyX7 k) := by decide +kernel
abbrev cX7_init : ByteArray := prog_9_method_1_code
def yX7_init : MethodName := ⟨RX7, "<init>", "()V"⟩
abbrev cX7_add : ByteArray := prog_9_method_2_code
def yX7_add : MethodName := ⟨RX7, "add", "(CII)I"⟩
abbrev cX7_ownCost : ByteArray := prog_9_method_3_code
def yX7_ownCost : MethodName := ⟨RX7, "ownCost", "(I)F"⟩
abbrev cX7_ownWeight : ByteArray := prog_9_method_4_code
def yX7_ownWeight : MethodName := ⟨RX7, "ownWeight", "(I)D"⟩
abbrev cX7_isSound : ByteArray := prog_9_method_5_code
def yX7_isSound : MethodName := ⟨RX7, "isSound", "()Z"⟩
def RX8 : String := "BillOfMaterials$QuantityCount"
def TX8 : u_T := fun k => match k with
  | 0 => ("BillOfMaterials$QuantityCount", "amounts", "[J", true)
  | _ => ("BillOfMaterials$QuantityCount", "amountsBelow", "[J", true)
def tyX8 : Nat → FieldType := fun k => match k with
  | 0 => .array .long
  | _ => .array .long
abbrev wsX80 : List Cond := u_ws RX8 TX8 2
theorem nmX8 : ∀ a, a < 2 → ∀ b, b < 2 → a ≠ b → (TX8 a).2.1 ≠ (TX8 b).2.1 := by decide +kernel
theorem tyX8_ok : ∀ k, k < 2 → parseFieldDescriptor (TX8 k).2.2.1 = some (tyX8 k) := by decide +kernel
abbrev cX8_init : ByteArray := prog_10_method_1_code
def yX8_init : MethodName := ⟨RX8, "<init>", "()V"⟩
abbrev cX8_count : ByteArray := prog_10_method_2_code
def yX8_count : MethodName := ⟨RX8, "count", "(LBillOfMaterials$Bill;II)J"⟩
abbrev cX8_goDown : ByteArray := prog_10_method_3_code
def yX8_goDown : MethodName := ⟨RX8, "goDown", "(LBillOfMaterials$Bill;)V"⟩
abbrev cX8_addChildrenOf : ByteArray := prog_10_method_4_code
def yX8_addChildrenOf : MethodName := ⟨RX8, "addChildrenOf", "(LBillOfMaterials$Bill;I)V"⟩
abbrev cX8_clear : ByteArray := prog_10_method_5_code
def yX8_clear : MethodName := ⟨RX8, "clear", "([J)V"⟩
def RX9 : String := "BillOfMaterials$WeightRollUp"
def TX9 : u_T := fun k => match k with
  | _ => ("BillOfMaterials$WeightRollUp", "weights", "[D", true)
def tyX9 : Nat → FieldType := fun k => match k with
  | _ => .array .double
abbrev wsX90 : List Cond := u_ws RX9 TX9 1
theorem nmX9 : ∀ a, a < 1 → ∀ b, b < 1 → a ≠ b → (TX9 a).2.1 ≠ (TX9 b).2.1 := by decide +kernel
theorem tyX9_ok : ∀ k, k < 1 → parseFieldDescriptor (TX9 k).2.2.1 = some (tyX9 k) := by decide +kernel
abbrev cX9_init : ByteArray := prog_11_method_1_code
def yX9_init : MethodName := ⟨RX9, "<init>", "()V"⟩
abbrev cX9_rollUp : ByteArray := prog_11_method_2_code
def yX9_rollUp : MethodName := ⟨RX9, "rollUp", "(LBillOfMaterials$Bill;)V"⟩
abbrev cX9_weightOf : ByteArray := prog_11_method_3_code
def yX9_weightOf : MethodName := ⟨RX9, "weightOf", "(LBillOfMaterials$Bill;I)D"⟩
def RX10 : String := "BillOfMaterials"
def TX10 : u_T := fun k => match k with
  | 0 => ("BillOfMaterials", "bill", "LBillOfMaterials$Bill;", true)
  | 1 => ("BillOfMaterials", "orderBook", "LBillOfMaterials$OrderBook;", true)
  | 2 => ("BillOfMaterials", "quantityCount", "LBillOfMaterials$QuantityCount;", true)
  | 3 => ("BillOfMaterials", "costRollUp", "LBillOfMaterials$CostRollUp;", true)
  | 4 => ("BillOfMaterials", "weightRollUp", "LBillOfMaterials$WeightRollUp;", true)
  | 5 => ("BillOfMaterials", "directList", "LBillOfMaterials$DirectList;", true)
  | 6 => ("BillOfMaterials", "output", "LBillOfMaterials$OutputLine;", true)
  | 7 => ("BillOfMaterials", "markedCosts", "[F", true)
  | 8 => ("BillOfMaterials", "markedParts", "I", false)
  | _ => ("BillOfMaterials", "configuration", "I", false)
def tyX10 : Nat → FieldType := fun k => match k with
  | 0 => .object "BillOfMaterials$Bill"
  | 1 => .object "BillOfMaterials$OrderBook"
  | 2 => .object "BillOfMaterials$QuantityCount"
  | 3 => .object "BillOfMaterials$CostRollUp"
  | 4 => .object "BillOfMaterials$WeightRollUp"
  | 5 => .object "BillOfMaterials$DirectList"
  | 6 => .object "BillOfMaterials$OutputLine"
  | 7 => .array .float
  | 8 => .int
  | _ => .int
abbrev wsX100 : List Cond := u_ws RX10 TX10 10
theorem nmX10 : ∀ a, a < 10 → ∀ b, b < 10 → a ≠ b → (TX10 a).2.1 ≠ (TX10 b).2.1 := by decide +kernel
theorem tyX10_ok : ∀ k, k < 10 → parseFieldDescriptor (TX10 k).2.2.1 = some (tyX10 k) := by decide +kernel
abbrev cX10_init : ByteArray := prog_1_method_1_code
def yX10_init : MethodName := ⟨RX10, "<init>", "()V"⟩
abbrev cX10_addPart : ByteArray := prog_1_method_2_code
def yX10_addPart : MethodName := ⟨RX10, "addPart", "(CII)I"⟩
abbrev cX10_setPrice : ByteArray := prog_1_method_3_code
def yX10_setPrice : MethodName := ⟨RX10, "setPrice", "(II)I"⟩
abbrev cX10_setGrams : ByteArray := prog_1_method_4_code
def yX10_setGrams : MethodName := ⟨RX10, "setGrams", "(II)I"⟩
abbrev cX10_setKind : ByteArray := prog_1_method_5_code
def yX10_setKind : MethodName := ⟨RX10, "setKind", "(IC)C"⟩
abbrev cX10_parts : ByteArray := prog_1_method_6_code
def yX10_parts : MethodName := ⟨RX10, "parts", "()I"⟩
abbrev cX10_kind : ByteArray := prog_1_method_7_code
def yX10_kind : MethodName := ⟨RX10, "kind", "(I)C"⟩
abbrev cX10_addLine : ByteArray := prog_1_method_8_code
def yX10_addLine : MethodName := ⟨RX10, "addLine", "(IIIIII)I"⟩
abbrev cX10_addVariant : ByteArray := prog_1_method_9_code
def yX10_addVariant : MethodName := ⟨RX10, "addVariant", "(IIIIII)I"⟩
abbrev cX10_replaceFrom : ByteArray := prog_1_method_10_code
def yX10_replaceFrom : MethodName := ⟨RX10, "replaceFrom", "(IIII)I"⟩
abbrev cX10_endBefore : ByteArray := prog_1_method_11_code
def yX10_endBefore : MethodName := ⟨RX10, "endBefore", "(II)I"⟩
abbrev cX10_setScrap : ByteArray := prog_1_method_12_code
def yX10_setScrap : MethodName := ⟨RX10, "setScrap", "(II)I"⟩
abbrev cX10_lines : ByteArray := prog_1_method_13_code
def yX10_lines : MethodName := ⟨RX10, "lines", "()I"⟩
abbrev cX10_lastSerial : ByteArray := prog_1_method_14_code
def yX10_lastSerial : MethodName := ⟨RX10, "lastSerial", "(I)I"⟩
abbrev cX10_holds : ByteArray := prog_1_method_15_code
def yX10_holds : MethodName := ⟨RX10, "holds", "(II)Z"⟩
abbrev cX10_setChoice : ByteArray := prog_1_method_16_code
def yX10_setChoice : MethodName := ⟨RX10, "setChoice", "(II)I"⟩
abbrev cX10_choice : ByteArray := prog_1_method_17_code
def yX10_choice : MethodName := ⟨RX10, "choice", "(I)I"⟩
abbrev cX10_listSize : ByteArray := prog_1_method_18_code
def yX10_listSize : MethodName := ⟨RX10, "listSize", "(II)I"⟩
abbrev cX10_listPart : ByteArray := prog_1_method_19_code
def yX10_listPart : MethodName := ⟨RX10, "listPart", "(III)I"⟩
abbrev cX10_listQuantity : ByteArray := prog_1_method_20_code
def yX10_listQuantity : MethodName := ⟨RX10, "listQuantity", "(III)J"⟩
abbrev cX10_writeList : ByteArray := prog_1_method_21_code
def yX10_writeList : MethodName := ⟨RX10, "writeList", "(II)I"⟩
abbrev cX10_charAt : ByteArray := prog_1_method_22_code
def yX10_charAt : MethodName := ⟨RX10, "charAt", "(I)C"⟩
abbrev cX10_quantity : ByteArray := prog_1_method_23_code
def yX10_quantity : MethodName := ⟨RX10, "quantity", "(III)J"⟩
abbrev cX10_quantityByWalking : ByteArray := prog_1_method_24_code
def yX10_quantityByWalking : MethodName := ⟨RX10, "quantityByWalking", "(III)J"⟩
abbrev cX10_whereUsed : ByteArray := prog_1_method_25_code
def yX10_whereUsed : MethodName := ⟨RX10, "whereUsed", "(II)I"⟩
abbrev cX10_levels : ByteArray := prog_1_method_26_code
def yX10_levels : MethodName := ⟨RX10, "levels", "(II)I"⟩
abbrev cX10_cost : ByteArray := prog_1_method_27_code
def yX10_cost : MethodName := ⟨RX10, "cost", "(II)F"⟩
abbrev cX10_costByWalking : ByteArray := prog_1_method_28_code
def yX10_costByWalking : MethodName := ⟨RX10, "costByWalking", "(II)F"⟩
abbrev cX10_costBits : ByteArray := prog_1_method_29_code
def yX10_costBits : MethodName := ⟨RX10, "costBits", "(II)I"⟩
abbrev cX10_costCents : ByteArray := prog_1_method_30_code
def yX10_costCents : MethodName := ⟨RX10, "costCents", "(II)I"⟩
abbrev cX10_dearest : ByteArray := prog_1_method_31_code
def yX10_dearest : MethodName := ⟨RX10, "dearest", "(II)I"⟩
abbrev cX10_weight : ByteArray := prog_1_method_32_code
def yX10_weight : MethodName := ⟨RX10, "weight", "(II)D"⟩
abbrev cX10_weightBits : ByteArray := prog_1_method_33_code
def yX10_weightBits : MethodName := ⟨RX10, "weightBits", "(II)J"⟩
abbrev cX10_markCosts : ByteArray := prog_1_method_34_code
def yX10_markCosts : MethodName := ⟨RX10, "markCosts", "(I)I"⟩
abbrev cX10_costChange : ByteArray := prog_1_method_35_code
def yX10_costChange : MethodName := ⟨RX10, "costChange", "(II)F"⟩
abbrev cX10_order : ByteArray := prog_1_method_36_code
def yX10_order : MethodName := ⟨RX10, "order", "(III)I"⟩
abbrev cX10_cancel : ByteArray := prog_1_method_37_code
def yX10_cancel : MethodName := ⟨RX10, "cancel", "(I)I"⟩
abbrev cX10_orderCost : ByteArray := prog_1_method_38_code
def yX10_orderCost : MethodName := ⟨RX10, "orderCost", "(I)F"⟩
abbrev cX10_need : ByteArray := prog_1_method_39_code
def yX10_need : MethodName := ⟨RX10, "need", "(I)J"⟩
abbrev cX10_isConsistent : ByteArray := prog_1_method_40_code
def yX10_isConsistent : MethodName := ⟨RX10, "isConsistent", "()Z"⟩
abbrev cX10_checkPart : ByteArray := prog_1_method_41_code
def yX10_checkPart : MethodName := ⟨RX10, "checkPart", "(I)V"⟩
abbrev cX10_checkLine : ByteArray := prog_1_method_42_code
def yX10_checkLine : MethodName := ⟨RX10, "checkLine", "(I)V"⟩
abbrev cX10_checkOrder : ByteArray := prog_1_method_43_code
def yX10_checkOrder : MethodName := ⟨RX10, "checkOrder", "(I)V"⟩
abbrev cX10_checkEntry : ByteArray := prog_1_method_44_code
def yX10_checkEntry : MethodName := ⟨RX10, "checkEntry", "(I)V"⟩
abbrev cX10_checkCut : ByteArray := prog_1_method_45_code
def yX10_checkCut : MethodName := ⟨RX10, "checkCut", "(II)V"⟩
abbrev cX10_checkNoCircle : ByteArray := prog_1_method_46_code
def yX10_checkNoCircle : MethodName := ⟨RX10, "checkNoCircle", "(II)V"⟩
abbrev cX10_checkRoomForLine : ByteArray := prog_1_method_47_code
def yX10_checkRoomForLine : MethodName := ⟨RX10, "checkRoomForLine", "(II)V"⟩
abbrev cX10_checkUnique : ByteArray := prog_1_method_48_code
def yX10_checkUnique : MethodName := ⟨RX10, "checkUnique", "(IIIIII)V"⟩
abbrev cX10_checkKind : ByteArray := prog_1_method_49_code
def yX10_checkKind : MethodName := ⟨RX10, "checkKind", "(C)V"⟩
abbrev cX10_checkCents : ByteArray := prog_1_method_50_code
def yX10_checkCents : MethodName := ⟨RX10, "checkCents", "(I)V"⟩
abbrev cX10_checkGrams : ByteArray := prog_1_method_51_code
def yX10_checkGrams : MethodName := ⟨RX10, "checkGrams", "(I)V"⟩
abbrev cX10_checkPosition : ByteArray := prog_1_method_52_code
def yX10_checkPosition : MethodName := ⟨RX10, "checkPosition", "(I)V"⟩
abbrev cX10_checkQuantity : ByteArray := prog_1_method_53_code
def yX10_checkQuantity : MethodName := ⟨RX10, "checkQuantity", "(I)V"⟩
abbrev cX10_checkRange : ByteArray := prog_1_method_54_code
def yX10_checkRange : MethodName := ⟨RX10, "checkRange", "(II)V"⟩
abbrev cX10_checkCondition : ByteArray := prog_1_method_55_code
def yX10_checkCondition : MethodName := ⟨RX10, "checkCondition", "(II)V"⟩
abbrev cX10_checkSerial : ByteArray := prog_1_method_56_code
def yX10_checkSerial : MethodName := ⟨RX10, "checkSerial", "(I)V"⟩
abbrev cX10_checkOption : ByteArray := prog_1_method_57_code
def yX10_checkOption : MethodName := ⟨RX10, "checkOption", "(I)V"⟩
abbrev cX10_makeDirectList : ByteArray := prog_1_method_58_code
def yX10_makeDirectList : MethodName := ⟨RX10, "makeDirectList", "(II)V"⟩
abbrev cX10_rolledUpCost : ByteArray := prog_1_method_59_code
def yX10_rolledUpCost : MethodName := ⟨RX10, "rolledUpCost", "(III)F"⟩
abbrev cX10_rolledUpWeight : ByteArray := prog_1_method_60_code
def yX10_rolledUpWeight : MethodName := ⟨RX10, "rolledUpWeight", "(II)D"⟩
abbrev cX10_collectEntries : ByteArray := prog_1_method_61_code
def yX10_collectEntries : MethodName := ⟨RX10, "collectEntries", "(LBillOfMaterials$Bill;LBillOfMaterials$DirectList;IJI)V"⟩
abbrev cX10_walkQuantity : ByteArray := prog_1_method_62_code
def yX10_walkQuantity : MethodName := ⟨RX10, "walkQuantity", "(LBillOfMaterials$Bill;III)J"⟩
abbrev cX10_walkCost : ByteArray := prog_1_method_63_code
def yX10_walkCost : MethodName := ⟨RX10, "walkCost", "(LBillOfMaterials$Bill;II)F"⟩
abbrev cX10_isBetween : ByteArray := prog_1_method_64_code
def yX10_isBetween : MethodName := ⟨RX10, "isBetween", "(III)Z"⟩
abbrev cX10_isKind : ByteArray := prog_1_method_65_code
def yX10_isKind : MethodName := ⟨RX10, "isKind", "(C)Z"⟩
abbrev cX10_choiceIn : ByteArray := prog_1_method_66_code
def yX10_choiceIn : MethodName := ⟨RX10, "choiceIn", "(II)I"⟩
abbrev cX10_isConfiguration : ByteArray := prog_1_method_67_code
def yX10_isConfiguration : MethodName := ⟨RX10, "isConfiguration", "(I)Z"⟩
def RX11 : String := "BillOfMaterialsModel"
def TX11 : u_T := fun k => match k with
  | 0 => ("BillOfMaterialsModel", "thrown", "I", false)
  | 1 => ("BillOfMaterialsModel", "parts", "I", false)
  | 2 => ("BillOfMaterialsModel", "lines", "I", false)
  | 3 => ("BillOfMaterialsModel", "orders", "I", false)
  | 4 => ("BillOfMaterialsModel", "marked", "I", false)
  | 5 => ("BillOfMaterialsModel", "written", "I", false)
  | 6 => ("BillOfMaterialsModel", "entries", "I", false)
  | 7 => ("BillOfMaterialsModel", "kind", "[I", true)
  | 8 => ("BillOfMaterialsModel", "cents", "[I", true)
  | 9 => ("BillOfMaterialsModel", "grams", "[I", true)
  | 10 => ("BillOfMaterialsModel", "parent", "[I", true)
  | 11 => ("BillOfMaterialsModel", "position", "[I", true)
  | 12 => ("BillOfMaterialsModel", "child", "[I", true)
  | 13 => ("BillOfMaterialsModel", "quantity", "[I", true)
  | 14 => ("BillOfMaterialsModel", "first", "[I", true)
  | 15 => ("BillOfMaterialsModel", "last", "[I", true)
  | 16 => ("BillOfMaterialsModel", "scrap", "[I", true)
  | 17 => ("BillOfMaterialsModel", "option", "[I", true)
  | 18 => ("BillOfMaterialsModel", "choices", "[I", true)
  | 19 => ("BillOfMaterialsModel", "present", "[I", true)
  | 20 => ("BillOfMaterialsModel", "kept", "[I", true)
  | 21 => ("BillOfMaterialsModel", "ordered", "[I", true)
  | 22 => ("BillOfMaterialsModel", "serialOf", "[I", true)
  | 23 => ("BillOfMaterialsModel", "unitsOf", "[I", true)
  | 24 => ("BillOfMaterialsModel", "chosen", "[I", true)
  | 25 => ("BillOfMaterialsModel", "isCancelled", "[Z", true)
  | 26 => ("BillOfMaterialsModel", "mark", "[F", true)
  | 27 => ("BillOfMaterialsModel", "letter", "[I", true)
  | 28 => ("BillOfMaterialsModel", "entryPart", "[I", true)
  | _ => ("BillOfMaterialsModel", "entryQuantity", "[J", true)
def tyX11 : Nat → FieldType := fun k => match k with
  | 0 => .int
  | 1 => .int
  | 2 => .int
  | 3 => .int
  | 4 => .int
  | 5 => .int
  | 6 => .int
  | 7 => .array .int
  | 8 => .array .int
  | 9 => .array .int
  | 10 => .array .int
  | 11 => .array .int
  | 12 => .array .int
  | 13 => .array .int
  | 14 => .array .int
  | 15 => .array .int
  | 16 => .array .int
  | 17 => .array .int
  | 18 => .array .int
  | 19 => .array .int
  | 20 => .array .int
  | 21 => .array .int
  | 22 => .array .int
  | 23 => .array .int
  | 24 => .array .int
  | 25 => .array .boolean
  | 26 => .array .float
  | 27 => .array .int
  | 28 => .array .int
  | _ => .array .long
abbrev wsX110 : List Cond := u_ws RX11 TX11 30
theorem nmX11 : ∀ a, a < 30 → ∀ b, b < 30 → a ≠ b → (TX11 a).2.1 ≠ (TX11 b).2.1 := by decide +kernel
theorem tyX11_ok : ∀ k, k < 30 → parseFieldDescriptor (TX11 k).2.2.1 = some (tyX11 k) := by decide +kernel
abbrev cX11_init : ByteArray := prog_13_method_1_code
def yX11_init : MethodName := ⟨RX11, "<init>", "()V"⟩
abbrev cX11_thrown : ByteArray := prog_13_method_2_code
def yX11_thrown : MethodName := ⟨RX11, "thrown", "()I"⟩
abbrev cX11_fails : ByteArray := prog_13_method_3_code
def yX11_fails : MethodName := ⟨RX11, "fails", "(I)I"⟩
abbrev cX11_in : ByteArray := prog_13_method_4_code
def yX11_in : MethodName := ⟨RX11, "in", "(III)Z"⟩
abbrev cX11_isPart : ByteArray := prog_13_method_5_code
def yX11_isPart : MethodName := ⟨RX11, "isPart", "(I)Z"⟩
abbrev cX11_isLine : ByteArray := prog_13_method_6_code
def yX11_isLine : MethodName := ⟨RX11, "isLine", "(I)Z"⟩
abbrev cX11_isKind : ByteArray := prog_13_method_7_code
def yX11_isKind : MethodName := ⟨RX11, "isKind", "(C)Z"⟩
abbrev cX11_isAsked : ByteArray := prog_13_method_8_code
def yX11_isAsked : MethodName := ⟨RX11, "isAsked", "(II)Z"⟩
abbrev cX11_addPart : ByteArray := prog_13_method_9_code
def yX11_addPart : MethodName := ⟨RX11, "addPart", "(CII)I"⟩
abbrev cX11_setPrice : ByteArray := prog_13_method_10_code
def yX11_setPrice : MethodName := ⟨RX11, "setPrice", "(II)I"⟩
abbrev cX11_setGrams : ByteArray := prog_13_method_11_code
def yX11_setGrams : MethodName := ⟨RX11, "setGrams", "(II)I"⟩
abbrev cX11_setKind : ByteArray := prog_13_method_12_code
def yX11_setKind : MethodName := ⟨RX11, "setKind", "(IC)C"⟩
abbrev cX11_parts : ByteArray := prog_13_method_13_code
def yX11_parts : MethodName := ⟨RX11, "parts", "()I"⟩
abbrev cX11_kind : ByteArray := prog_13_method_14_code
def yX11_kind : MethodName := ⟨RX11, "kind", "(I)C"⟩
abbrev cX11_below : ByteArray := prog_13_method_15_code
def yX11_below : MethodName := ⟨RX11, "below", "(I)I"⟩
abbrev cX11_above : ByteArray := prog_13_method_16_code
def yX11_above : MethodName := ⟨RX11, "above", "(I)I"⟩
abbrev cX11_reaches : ByteArray := prog_13_method_17_code
def yX11_reaches : MethodName := ⟨RX11, "reaches", "(II)Z"⟩
abbrev cX11_isDeep : ByteArray := prog_13_method_18_code
def yX11_isDeep : MethodName := ⟨RX11, "isDeep", "(II)Z"⟩
abbrev cX11_meets : ByteArray := prog_13_method_19_code
def yX11_meets : MethodName := ⟨RX11, "meets", "(IIIIII)Z"⟩
abbrev cX11_puts : ByteArray := prog_13_method_20_code
def yX11_puts : MethodName := ⟨RX11, "puts", "(IIIIIIII)I"⟩
abbrev cX11_adds : ByteArray := prog_13_method_21_code
def yX11_adds : MethodName := ⟨RX11, "adds", "(IIIIIIII)I"⟩
abbrev cX11_addLine : ByteArray := prog_13_method_22_code
def yX11_addLine : MethodName := ⟨RX11, "addLine", "(IIIIII)I"⟩
abbrev cX11_addVariant : ByteArray := prog_13_method_23_code
def yX11_addVariant : MethodName := ⟨RX11, "addVariant", "(IIIIII)I"⟩
abbrev cX11_replaceFrom : ByteArray := prog_13_method_24_code
def yX11_replaceFrom : MethodName := ⟨RX11, "replaceFrom", "(IIII)I"⟩
abbrev cX11_endBefore : ByteArray := prog_13_method_25_code
def yX11_endBefore : MethodName := ⟨RX11, "endBefore", "(II)I"⟩
abbrev cX11_setScrap : ByteArray := prog_13_method_26_code
def yX11_setScrap : MethodName := ⟨RX11, "setScrap", "(II)I"⟩
abbrev cX11_lines : ByteArray := prog_13_method_27_code
def yX11_lines : MethodName := ⟨RX11, "lines", "()I"⟩
abbrev cX11_lastSerial : ByteArray := prog_13_method_28_code
def yX11_lastSerial : MethodName := ⟨RX11, "lastSerial", "(I)I"⟩
abbrev cX11_isHeld : ByteArray := prog_13_method_29_code
def yX11_isHeld : MethodName := ⟨RX11, "isHeld", "(II)Z"⟩
abbrev cX11_holds : ByteArray := prog_13_method_30_code
def yX11_holds : MethodName := ⟨RX11, "holds", "(II)Z"⟩
abbrev cX11_setChoice : ByteArray := prog_13_method_31_code
def yX11_setChoice : MethodName := ⟨RX11, "setChoice", "(II)I"⟩
abbrev cX11_choice : ByteArray := prog_13_method_32_code
def yX11_choice : MethodName := ⟨RX11, "choice", "(I)I"⟩
abbrev cX11_at : ByteArray := prog_13_method_33_code
def yX11_at : MethodName := ⟨RX11, "at", "(III)I"⟩
abbrev cX11_lists : ByteArray := prog_13_method_34_code
def yX11_lists : MethodName := ⟨RX11, "lists", "(IIJ)V"⟩
abbrev cX11_isListed : ByteArray := prog_13_method_35_code
def yX11_isListed : MethodName := ⟨RX11, "isListed", "(II)Z"⟩
abbrev cX11_listSize : ByteArray := prog_13_method_36_code
def yX11_listSize : MethodName := ⟨RX11, "listSize", "(II)I"⟩
abbrev cX11_listPart : ByteArray := prog_13_method_37_code
def yX11_listPart : MethodName := ⟨RX11, "listPart", "(III)I"⟩
abbrev cX11_listQuantity : ByteArray := prog_13_method_38_code
def yX11_listQuantity : MethodName := ⟨RX11, "listQuantity", "(III)J"⟩
abbrev cX11_writes : ByteArray := prog_13_method_39_code
def yX11_writes : MethodName := ⟨RX11, "writes", "(J)V"⟩
abbrev cX11_sets : ByteArray := prog_13_method_40_code
def yX11_sets : MethodName := ⟨RX11, "sets", "(C)V"⟩
abbrev cX11_writeList : ByteArray := prog_13_method_41_code
def yX11_writeList : MethodName := ⟨RX11, "writeList", "(II)I"⟩
abbrev cX11_charAt : ByteArray := prog_13_method_42_code
def yX11_charAt : MethodName := ⟨RX11, "charAt", "(I)C"⟩
abbrev cX11_has : ByteArray := prog_13_method_43_code
def yX11_has : MethodName := ⟨RX11, "has", "(III)J"⟩
abbrev cX11_quantity : ByteArray := prog_13_method_44_code
def yX11_quantity : MethodName := ⟨RX11, "quantity", "(III)J"⟩
abbrev cX11_quantityByWalking : ByteArray := prog_13_method_45_code
def yX11_quantityByWalking : MethodName := ⟨RX11, "quantityByWalking", "(III)J"⟩
abbrev cX11_whereUsed : ByteArray := prog_13_method_46_code
def yX11_whereUsed : MethodName := ⟨RX11, "whereUsed", "(II)I"⟩
abbrev cX11_depth : ByteArray := prog_13_method_47_code
def yX11_depth : MethodName := ⟨RX11, "depth", "(II)I"⟩
abbrev cX11_levels : ByteArray := prog_13_method_48_code
def yX11_levels : MethodName := ⟨RX11, "levels", "(II)I"⟩
abbrev cX11_more : ByteArray := prog_13_method_49_code
def yX11_more : MethodName := ⟨RX11, "more", "(II)F"⟩
abbrev cX11_price : ByteArray := prog_13_method_50_code
def yX11_price : MethodName := ⟨RX11, "price", "(II)F"⟩
abbrev cX11_cost : ByteArray := prog_13_method_51_code
def yX11_cost : MethodName := ⟨RX11, "cost", "(II)F"⟩
abbrev cX11_costByWalking : ByteArray := prog_13_method_52_code
def yX11_costByWalking : MethodName := ⟨RX11, "costByWalking", "(II)F"⟩
abbrev cX11_costBits : ByteArray := prog_13_method_53_code
def yX11_costBits : MethodName := ⟨RX11, "costBits", "(II)I"⟩
abbrev cX11_costCents : ByteArray := prog_13_method_54_code
def yX11_costCents : MethodName := ⟨RX11, "costCents", "(II)I"⟩
abbrev cX11_dearest : ByteArray := prog_13_method_55_code
def yX11_dearest : MethodName := ⟨RX11, "dearest", "(II)I"⟩
abbrev cX11_mass : ByteArray := prog_13_method_56_code
def yX11_mass : MethodName := ⟨RX11, "mass", "(II)D"⟩
abbrev cX11_weight : ByteArray := prog_13_method_57_code
def yX11_weight : MethodName := ⟨RX11, "weight", "(II)D"⟩
abbrev cX11_weightBits : ByteArray := prog_13_method_58_code
def yX11_weightBits : MethodName := ⟨RX11, "weightBits", "(II)J"⟩
abbrev cX11_markCosts : ByteArray := prog_13_method_59_code
def yX11_markCosts : MethodName := ⟨RX11, "markCosts", "(I)I"⟩
abbrev cX11_costChange : ByteArray := prog_13_method_60_code
def yX11_costChange : MethodName := ⟨RX11, "costChange", "(II)F"⟩
abbrev cX11_order : ByteArray := prog_13_method_61_code
def yX11_order : MethodName := ⟨RX11, "order", "(III)I"⟩
abbrev cX11_cancel : ByteArray := prog_13_method_62_code
def yX11_cancel : MethodName := ⟨RX11, "cancel", "(I)I"⟩
abbrev cX11_takes : ByteArray := prog_13_method_63_code
def yX11_takes : MethodName := ⟨RX11, "takes", "(I)V"⟩
abbrev cX11_gives : ByteArray := prog_13_method_64_code
def yX11_gives : MethodName := ⟨RX11, "gives", "()V"⟩
abbrev cX11_orderCost : ByteArray := prog_13_method_65_code
def yX11_orderCost : MethodName := ⟨RX11, "orderCost", "(I)F"⟩
abbrev cX11_need : ByteArray := prog_13_method_66_code
def yX11_need : MethodName := ⟨RX11, "need", "(I)J"⟩
abbrev cX11_isConsistent : ByteArray := prog_13_method_67_code
def yX11_isConsistent : MethodName := ⟨RX11, "isConsistent", "()Z"⟩
def RJx145de : String := "java/io/Serializable"
def TJx145de : u_T := fun k => match k with
  | _ => ("", "", "", false)
def tyJx145de : Nat → FieldType := fun k => match k with
  | _ => .int
theorem nmJx145de : ∀ a, a < 0 → ∀ b, b < 0 → a ≠ b → (TJx145de a).2.1 ≠ (TJx145de b).2.1 := by decide +kernel
theorem tyJx145de_ok : ∀ k, k < 0 → parseFieldDescriptor (TJx145de k).2.2.1 = some (tyJx145de k) := by decide +kernel
def RJxb160c : String := "java/lang/Comparable"
def TJxb160c : u_T := fun k => match k with
  | _ => ("", "", "", false)
def tyJxb160c : Nat → FieldType := fun k => match k with
  | _ => .int
theorem nmJxb160c : ∀ a, a < 0 → ∀ b, b < 0 → a ≠ b → (TJxb160c a).2.1 ≠ (TJxb160c b).2.1 := by decide +kernel
theorem tyJxb160c_ok : ∀ k, k < 0 → parseFieldDescriptor (TJxb160c k).2.2.1 = some (tyJxb160c k) := by decide +kernel
def RJxe99ae : String := "java/lang/Double"
def TJxe99ae : u_T := fun k => match k with
  | _ => ("", "", "", false)
def tyJxe99ae : Nat → FieldType := fun k => match k with
  | _ => .int
theorem nmJxe99ae : ∀ a, a < 0 → ∀ b, b < 0 → a ≠ b → (TJxe99ae a).2.1 ≠ (TJxe99ae b).2.1 := by decide +kernel
theorem tyJxe99ae_ok : ∀ k, k < 0 → parseFieldDescriptor (TJxe99ae k).2.2.1 = some (tyJxe99ae k) := by decide +kernel
abbrev cJxe99ae_isNaN_b9ae7 : ByteArray := prog_16_method_6_code
def yJxe99ae_isNaN_b9ae7 : MethodName := ⟨RJxe99ae, "isNaN", "(D)Z"⟩
abbrev cJxe99ae_doubleToLongBits_ccdee : ByteArray := prog_16_method_23_code
def yJxe99ae_doubleToLongBits_ccdee : MethodName := ⟨RJxe99ae, "doubleToLongBits", "(D)J"⟩
def RJxf58ca : String := "java/lang/Float"
def TJxf58ca : u_T := fun k => match k with
  | _ => ("", "", "", false)
def tyJxf58ca : Nat → FieldType := fun k => match k with
  | _ => .int
theorem nmJxf58ca : ∀ a, a < 0 → ∀ b, b < 0 → a ≠ b → (TJxf58ca a).2.1 ≠ (TJxf58ca b).2.1 := by decide +kernel
theorem tyJxf58ca_ok : ∀ k, k < 0 → parseFieldDescriptor (TJxf58ca k).2.2.1 = some (tyJxf58ca k) := by decide +kernel
abbrev cJxf58ca_isNaN_12338 : ByteArray := prog_18_method_6_code
def yJxf58ca_isNaN_12338 : MethodName := ⟨RJxf58ca, "isNaN", "(F)Z"⟩
abbrev cJxf58ca_floatToIntBits_5c35a : ByteArray := prog_18_method_24_code
def yJxf58ca_floatToIntBits_5c35a : MethodName := ⟨RJxf58ca, "floatToIntBits", "(F)I"⟩
def RJxd2413 : String := "java/lang/Number"
def TJxd2413 : u_T := fun k => match k with
  | _ => ("", "", "", false)
def tyJxd2413 : Nat → FieldType := fun k => match k with
  | _ => .int
theorem nmJxd2413 : ∀ a, a < 0 → ∀ b, b < 0 → a ≠ b → (TJxd2413 a).2.1 ≠ (TJxd2413 b).2.1 := by decide +kernel
theorem tyJxd2413_ok : ∀ k, k < 0 → parseFieldDescriptor (TJxd2413 k).2.2.1 = some (tyJxd2413 k) := by decide +kernel
def RJ0 : String := "java/lang/String"
def TJ0 : u_T := fun k => match k with
  | _ => ("", "", "", false)
def tyJ0 : Nat → FieldType := fun k => match k with
  | _ => .int
theorem nmJ0 : ∀ a, a < 0 → ∀ b, b < 0 → a ≠ b → (TJ0 a).2.1 ≠ (TJ0 b).2.1 := by decide +kernel
theorem tyJ0_ok : ∀ k, k < 0 → parseFieldDescriptor (TJ0 k).2.2.1 = some (tyJ0 k) := by decide +kernel
def RJ10 : String := "java/lang/System"
def TJ10 : u_T := fun k => match k with
  | _ => ("", "", "", false)
def tyJ10 : Nat → FieldType := fun k => match k with
  | _ => .int
theorem nmJ10 : ∀ a, a < 0 → ∀ b, b < 0 → a ≠ b → (TJ10 a).2.1 ≠ (TJ10 b).2.1 := by decide +kernel
theorem tyJ10_ok : ∀ k, k < 0 → parseFieldDescriptor (TJ10 k).2.2.1 = some (tyJ10 k) := by decide +kernel
def RJxfd54e : String := "java/lang/constant/Constable"
def TJxfd54e : u_T := fun k => match k with
  | _ => ("", "", "", false)
def tyJxfd54e : Nat → FieldType := fun k => match k with
  | _ => .int
theorem nmJxfd54e : ∀ a, a < 0 → ∀ b, b < 0 → a ≠ b → (TJxfd54e a).2.1 ≠ (TJxfd54e b).2.1 := by decide +kernel
theorem tyJxfd54e_ok : ∀ k, k < 0 → parseFieldDescriptor (TJxfd54e k).2.2.1 = some (tyJxfd54e k) := by decide +kernel
def RJx3cf43 : String := "java/lang/constant/ConstantDesc"
def TJx3cf43 : u_T := fun k => match k with
  | _ => ("", "", "", false)
def tyJx3cf43 : Nat → FieldType := fun k => match k with
  | _ => .int
theorem nmJx3cf43 : ∀ a, a < 0 → ∀ b, b < 0 → a ≠ b → (TJx3cf43 a).2.1 ≠ (TJx3cf43 b).2.1 := by decide +kernel
theorem tyJx3cf43_ok : ∀ k, k < 0 → parseFieldDescriptor (TJx3cf43 k).2.2.1 = some (tyJx3cf43 k) := by decide +kernel
def RL : String := "BillOfMaterialsLaw"
abbrev cL_addPart : ByteArray := method_3_code
def yL_addPart : MethodName := ⟨RL, "addPart", "(LBillOfMaterials;CII[J)I"⟩
abbrev cL_setPrice : ByteArray := method_4_code
def yL_setPrice : MethodName := ⟨RL, "setPrice", "(LBillOfMaterials;II[J)I"⟩
abbrev cL_setGrams : ByteArray := method_5_code
def yL_setGrams : MethodName := ⟨RL, "setGrams", "(LBillOfMaterials;II[J)I"⟩
abbrev cL_setKind : ByteArray := method_6_code
def yL_setKind : MethodName := ⟨RL, "setKind", "(LBillOfMaterials;IC[J)I"⟩
abbrev cL_kind : ByteArray := method_7_code
def yL_kind : MethodName := ⟨RL, "kind", "(LBillOfMaterials;I[J)I"⟩
abbrev cL_addLine : ByteArray := method_8_code
def yL_addLine : MethodName := ⟨RL, "addLine", "(LBillOfMaterials;IIIIII[J)I"⟩
abbrev cL_addVariant : ByteArray := method_9_code
def yL_addVariant : MethodName := ⟨RL, "addVariant", "(LBillOfMaterials;IIIIII[J)I"⟩
abbrev cL_replaceFrom : ByteArray := method_10_code
def yL_replaceFrom : MethodName := ⟨RL, "replaceFrom", "(LBillOfMaterials;IIII[J)I"⟩
abbrev cL_endBefore : ByteArray := method_11_code
def yL_endBefore : MethodName := ⟨RL, "endBefore", "(LBillOfMaterials;II[J)I"⟩
abbrev cL_setScrap : ByteArray := method_12_code
def yL_setScrap : MethodName := ⟨RL, "setScrap", "(LBillOfMaterials;II[J)I"⟩
abbrev cL_lastSerial : ByteArray := method_13_code
def yL_lastSerial : MethodName := ⟨RL, "lastSerial", "(LBillOfMaterials;I[J)I"⟩
abbrev cL_holds : ByteArray := method_14_code
def yL_holds : MethodName := ⟨RL, "holds", "(LBillOfMaterials;II[J)I"⟩
abbrev cL_setChoice : ByteArray := method_15_code
def yL_setChoice : MethodName := ⟨RL, "setChoice", "(LBillOfMaterials;II[J)I"⟩
abbrev cL_choice : ByteArray := method_16_code
def yL_choice : MethodName := ⟨RL, "choice", "(LBillOfMaterials;I[J)I"⟩
abbrev cL_listSize : ByteArray := method_17_code
def yL_listSize : MethodName := ⟨RL, "listSize", "(LBillOfMaterials;II[J)I"⟩
abbrev cL_listPart : ByteArray := method_18_code
def yL_listPart : MethodName := ⟨RL, "listPart", "(LBillOfMaterials;III[J)I"⟩
abbrev cL_listQuantity : ByteArray := method_19_code
def yL_listQuantity : MethodName := ⟨RL, "listQuantity", "(LBillOfMaterials;III[J)I"⟩
abbrev cL_writeList : ByteArray := method_20_code
def yL_writeList : MethodName := ⟨RL, "writeList", "(LBillOfMaterials;II[J)I"⟩
abbrev cL_charAt : ByteArray := method_21_code
def yL_charAt : MethodName := ⟨RL, "charAt", "(LBillOfMaterials;I[J)I"⟩
abbrev cL_quantity : ByteArray := method_22_code
def yL_quantity : MethodName := ⟨RL, "quantity", "(LBillOfMaterials;III[J)I"⟩
abbrev cL_quantityByWalking : ByteArray := method_23_code
def yL_quantityByWalking : MethodName := ⟨RL, "quantityByWalking", "(LBillOfMaterials;III[J)I"⟩
abbrev cL_whereUsed : ByteArray := method_24_code
def yL_whereUsed : MethodName := ⟨RL, "whereUsed", "(LBillOfMaterials;II[J)I"⟩
abbrev cL_levels : ByteArray := method_25_code
def yL_levels : MethodName := ⟨RL, "levels", "(LBillOfMaterials;II[J)I"⟩
abbrev cL_cost : ByteArray := method_26_code
def yL_cost : MethodName := ⟨RL, "cost", "(LBillOfMaterials;II[D)I"⟩
abbrev cL_costByWalking : ByteArray := method_27_code
def yL_costByWalking : MethodName := ⟨RL, "costByWalking", "(LBillOfMaterials;II[D)I"⟩
abbrev cL_costBits : ByteArray := method_28_code
def yL_costBits : MethodName := ⟨RL, "costBits", "(LBillOfMaterials;II[J)I"⟩
abbrev cL_costCents : ByteArray := method_29_code
def yL_costCents : MethodName := ⟨RL, "costCents", "(LBillOfMaterials;II[J)I"⟩
abbrev cL_dearest : ByteArray := method_30_code
def yL_dearest : MethodName := ⟨RL, "dearest", "(LBillOfMaterials;II[J)I"⟩
abbrev cL_weight : ByteArray := method_31_code
def yL_weight : MethodName := ⟨RL, "weight", "(LBillOfMaterials;II[D)I"⟩
abbrev cL_weightBits : ByteArray := method_32_code
def yL_weightBits : MethodName := ⟨RL, "weightBits", "(LBillOfMaterials;II[J)I"⟩
abbrev cL_markCosts : ByteArray := method_33_code
def yL_markCosts : MethodName := ⟨RL, "markCosts", "(LBillOfMaterials;I[J)I"⟩
abbrev cL_costChange : ByteArray := method_34_code
def yL_costChange : MethodName := ⟨RL, "costChange", "(LBillOfMaterials;II[D)I"⟩
abbrev cL_order : ByteArray := method_35_code
def yL_order : MethodName := ⟨RL, "order", "(LBillOfMaterials;III[J)I"⟩
abbrev cL_cancel : ByteArray := method_36_code
def yL_cancel : MethodName := ⟨RL, "cancel", "(LBillOfMaterials;I[J)I"⟩
abbrev cL_orderCost : ByteArray := method_37_code
def yL_orderCost : MethodName := ⟨RL, "orderCost", "(LBillOfMaterials;I[D)I"⟩
abbrev cL_need : ByteArray := method_38_code
def yL_need : MethodName := ⟨RL, "need", "(LBillOfMaterials;I[J)I"⟩
abbrev cL_law : ByteArray := code
def yL_law : MethodName := ⟨RL, "law", "([I)Z"⟩
abbrev vwCl : List vw_C := [(RX0, TX0, 6), (RX2, TX2, 1), (RX3, TX3, 3), (RX4, TX4, 10), (RX5, TX5, 6), (RX6, TX6, 2), (RX7, TX7, 4), (RX8, TX8, 2), (RX9, TX9, 1), (RX10, TX10, 10), (RX11, TX11, 30)]
end
section
/-! FRAME: a world of numbered cells, a method's data, the judgement XJ (a walk from here), the contract XC, one row an instruction -/
abbrev Wd : Type := (Nat → Nat) × Nat × (Nat → va_E)
/-- the cells of a world as the kit's list -/
def xw (w : Wd) : va_W := (List.range w.2.1).map (fun i => (w.1 i, w.2.2 i))
/-- cell i holds e now -/
def setM (w : Wd) (i : Nat) (e : va_E) : Wd := (w.1, w.2.1, fun j => bif Nat.beq j i then e else w.2.2 j)
/-- a new cell at the end -/
def addM (w : Wd) (q : Nat) (e : va_E) : Wd := (fun j => bif Nat.beq j w.2.1 then q else w.1 j, w.2.1 + 1, fun j => bif Nat.beq j w.2.1 then e else w.2.2 j)
abbrev XRes : Type := Option Value ⊕ String
/-- own class, name, bytes, locals, answer's type, handlers -/
abbrev Mth : Type := String × MethodName × ByteArray × Nat × Option FieldType × List (Nat × Nat × Nat × Nat)
def tysK (K : Nat → ClassId) : List (ClassId × FieldType) := [(K 0, .int), (K 1, .char), (K 2, .boolean), (K 3, .long), (K 4, .float), (K 5, .double)]
def aI (K : Nat → ClassId) (n : Nat) (f : Nat → Int32) : va_E := .inl (K 0, n, .inl f)
def aC (K : Nat → ClassId) (n : Nat) (f : Nat → Int32) : va_E := .inl (K 1, n, .inl f)
def aZ (K : Nat → ClassId) (n : Nat) (f : Nat → Int32) : va_E := .inl (K 2, n, .inl f)
def aL (K : Nat → ClassId) (n : Nat) (f : Nat → Int64) : va_E := .inl (K 3, n, .inr (.inl f))
def aF (K : Nat → ClassId) (n : Nat) (f : Nat → UInt32) : va_E := .inl (K 4, n, .inr (.inr (.inl f)))
def aD (K : Nat → ClassId) (n : Nat) (f : Nat → UInt64) : va_E := .inl (K 5, n, .inr (.inr (.inr (.inl f))))
def oB (ci : Nat) (fs : List Value) : va_E := .inr (ci, fs)
/-- the words of the claim's tables that go along -/
def xgood2 (w : Cond) : Bool := match w with
  | .arrayClass _ => true
  | .methodLinkNest .. => true
  | _ => false
def xgood (w : Cond) : Bool := (w.onTables && w.keepsFace) || xgood2 w
def xall : List Cond := lw_tbl.filter xgood
theorem xgood_warm {args args' : Array Value} {s T : State} (hW : s.WarmedH T.vm) (w : Cond) (hg : xgood w = true) (h : w.before args s = true) : w.before args' T = true := by
  rcases Bool.or_eq_true_iff.mp hg with h1 | h1
  · have hg2 := Bool.and_eq_true_iff.mp h1
    exact Cond.onTables_warmFace (T := T) hW hg2.1 hg2.2 h
  · cases w <;> first
    | (simp [xgood2] at h1; done)
    | exact word_at hW (Or.inr ⟨_, rfl⟩) h
    | exact va_Nw.use rfl (va_Nw.warmM hW (va_Nw.of rfl h))
theorem arrayClass_vm {args args' : Array Value} {u U : State} (hv : u.vm = U.vm) {ty : FieldType} (h : (Cond.arrayClass ty).before args u = true) : (Cond.arrayClass ty).before args' U = true := by
  have e : (Cond.arrayClass ty).before args' U = (Cond.arrayClass ty).before args u := by
    simp [Cond.before, Cond.holds, Cond.value, hv]
  rw [e]; exact h
theorem xgood_moved {args args' : Array Value} {u U : State} (hv : u.vm = U.vm) (w : Cond) (hg : xgood w = true) (h : w.before args u = true) : w.before args' U = true := by
  rcases Bool.or_eq_true_iff.mp hg with h1 | h1
  · have hg2 := Bool.and_eq_true_iff.mp h1
    exact va_tabs hg2.1 hv h
  · cases w <;> first
    | (simp [xgood2] at h1; done)
    | exact va_tabs rfl hv h
    | exact arrayClass_vm hv h
theorem xgood_args {args args' : Array Value} {s : State} (w : Cond) (hg : xgood w = true) (h : w.before args s = true) : w.before args' s = true := xgood_moved rfl w hg h
def xword (μ : Mth) : Cond := match μ.2.2.2.2.2 with
  | [] => .code μ.2.1 μ.2.2.1 μ.2.2.2.1 μ.2.2.2.2.1
  | h :: t => .codeWith μ.2.1 μ.2.2.1 μ.2.2.2.1 μ.2.2.2.2.1 (h :: t)
def xws (μ : Mth) : List Cond := [xword μ]
/-- the class's texts, by their places in its file -/
def xstrs : List (String × Nat × String) := [("BillOfMaterials", 390, "no such kind"), ("BillOfMaterials", 393, "price out of range"), ("BillOfMaterials", 395, "weight out of range"), ("BillOfMaterials", 91, "there are 16 parts"), ("BillOfMaterials", 343, "no such part"), ("BillOfMaterials", 397, "position out of range"), ("BillOfMaterials", 399, "quantity out of range"), ("BillOfMaterials", 401, "range of serial numbers out of range"), ("BillOfMaterials", 362, "the line would be a circle"), ("BillOfMaterials", 371, "the line would be too deep"), ("BillOfMaterials", 373, "there are 40 lines"), ("BillOfMaterials", 384, "the line would collide with another line"), ("BillOfMaterials", 403, "condition out of range"), ("BillOfMaterials", 345, "no such line"), ("BillOfMaterials", 354, "the line can't be cut at this serial number"), ("BillOfMaterials", 183, "scrap rate out of range"), ("BillOfMaterials", 405, "serial number out of range"), ("BillOfMaterials", 407, "no such option"), ("BillOfMaterials", 196, "choice out of range"), ("BillOfMaterials", 349, "no such entry"), ("BillOfMaterials", 231, "no such character"), ("BillOfMaterials", 276, "the part has no lines"), ("BillOfMaterials", 290, "no cost of this part is marked"), ("BillOfMaterials", 292, "number of units out of range"), ("BillOfMaterials", 295, "there are 8 orders"), ("BillOfMaterials", 347, "no such order"), ("BillOfMaterials", 305, "the order was cancelled before")]
/-- exceptions that aren't caught as others -/
def xncs : List (String × String) := [("java/lang/IllegalArgumentException", "java/lang/IllegalStateException"), ("java/lang/IllegalArgumentException", "java/lang/IndexOutOfBoundsException"), ("java/lang/IllegalArgumentException", "java/lang/UnsupportedOperationException"), ("java/lang/IllegalArgumentException", "java/util/NoSuchElementException"), ("java/lang/IllegalStateException", "java/lang/IllegalArgumentException"), ("java/lang/IllegalStateException", "java/lang/IndexOutOfBoundsException"), ("java/lang/IllegalStateException", "java/lang/UnsupportedOperationException"), ("java/lang/IllegalStateException", "java/util/NoSuchElementException"), ("java/lang/IndexOutOfBoundsException", "java/lang/IllegalArgumentException"), ("java/lang/IndexOutOfBoundsException", "java/lang/IllegalStateException"), ("java/lang/IndexOutOfBoundsException", "java/lang/UnsupportedOperationException"), ("java/lang/IndexOutOfBoundsException", "java/util/NoSuchElementException"), ("java/lang/UnsupportedOperationException", "java/lang/IllegalArgumentException"), ("java/lang/UnsupportedOperationException", "java/lang/IllegalStateException"), ("java/lang/UnsupportedOperationException", "java/lang/IndexOutOfBoundsException"), ("java/lang/UnsupportedOperationException", "java/util/NoSuchElementException"), ("java/util/NoSuchElementException", "java/lang/IllegalArgumentException"), ("java/util/NoSuchElementException", "java/lang/IllegalStateException"), ("java/util/NoSuchElementException", "java/lang/IndexOutOfBoundsException"), ("java/util/NoSuchElementException", "java/lang/UnsupportedOperationException")]
def xroom (d gc gs : Nat) : Room := { frames := d, cells := gc, slots := gs, locals := 64 * d }
/-- what holds of every state of the run, worlds apart: classes, the two statics of Throwable, the texts, nest mates' links, what isn't castable -/
def SW (l : Launch) (D : va_G) (K : Nat → ClassId) (A : Nat → Prop) (sc : Nat × Nat × (Nat → Int32)) (U : State) : Prop :=
  va_K D vwCl (tysK K) U ∧ vx_Zq Bundle.tN "UNASSIGNED_STACK" Bundle.steD A U U.heap ∧ vx_Zq Bundle.tN "SUPPRESSED_SENTINEL" Bundle.listD A U U.heap ∧
  (∀ q ∈ xstrs, ∃ a, vk_R q.1 q.2.1 q.2.2 a U) ∧ (∀ w ∈ xall, w.before #[] U = true) ∧ (∀ q ∈ xncs, va_Nc q.1 q.2 U) ∧ l.stackTraces = false ∧ (∀ q : Nat, U.heap.size ≤ q → A q) ∧ va_X sc.1 sc.2.1 sc.2.2 U U.heap ∧ sc.1 < U.heap.size ∧ ¬ A sc.1
/-- what a launch, its classes and the law's start give: one name for all of it -/
abbrev Gx : Type := Launch × va_G × (Nat → ClassId) × (Nat → Prop) × (Nat × Nat × (Nat → Int32))
def SG (G : Gx) (U : State) : Prop := SW G.1 G.2.1 G.2.2.1 G.2.2.2.1 G.2.2.2.2 U
def WG (G : Gx) (w : Wd) (H : Heap) : Prop := va_P G.2.1 vwCl (xw w) H ∧ va_D G.2.2.2.1 (xw w)
def QJ (G : Gx) (Q : XRes → Wd → Prop) : Array Value → State → Outcome → State → Prop := fun _ st oc t =>
  (∃ (v : Option Value) (w' : Wd), oc = .returned v ∧ Q (.inl v) w' ∧ WG G w' t.heap) ∧ va_F G.2.2.2.1 st t
def XQ (G : Gx) (Q : XRes → Wd → Prop) : String → State → State → Prop := fun E st t =>
  (∃ w' : Wd, Q (.inr E) w' ∧ WG G w' t.heap) ∧ va_F G.2.2.2.1 st t
/-- a contract: from the world w and the arguments av the method comes to an answer and a world that Q allows -/
def XC (G : Gx) (μ : Mth) (d gc gs : Nat) (av : List Value) (w : Wd) (Q : XRes → Wd → Prop) : Prop :=
  vx_Met G.1 μ.2.1 (xws μ) (xroom d gc gs) (va_Pc av (fun U => SG G U ∧ WG G w U.heap)) (QJ G Q) (XQ G Q) gc gs G.2.2.2.1
/-- an activation of the method -/
def Cx (G : Gx) (μ : Mth) (d : Nat) (p : Program) (R : Room) (s : State) (m : MethodId) (args : Array Value) (meth : Method) (c : Code) : Prop :=
  SG G s ∧ p.tables.exec = Jvm.exec ∧ c.code = μ.2.2.1 ∧ c.maxLocals = μ.2.2.2.1 ∧ s.vm.findClass μ.1 = some m.cls ∧ (∀ w ∈ xall, w.before args s = true) ∧ meth.sig.returnType = μ.2.2.2.2.1 ∧ meth.locks = false ∧ meth.name = μ.2.1.name ∧ d ≤ R.frames ∧ 64 * d ≤ R.locals ∧ c.exceptionTable.toList = tableOf μ.2.2.2.2.2
/-- a walk from pc with these locals, this stack, this world, gc cells and gs slots still to make, comes to Q -/
def XJ (G : Gx) (μ : Mth) (d gc gs pc : Nat) (lo : List (Nat × Value)) (st : List Value) (w : Wd) (Q : XRes → Wd → Prop) : Prop :=
  ∀ (p : Program) (e : Env) (R : Room) (s : State) (m : MethodId) (args : Array Value) (below : List Frame) (meth : Method) (c : Code), Cx G μ d p R s m args meth c →
  ∀ (mc ms : Nat) (H : Heap) (locs : List Loc) (cells slots : Nat) (ls : Array Slot), cells + gc ≤ mc → slots + gs ≤ ms → mc ≤ R.cells → ms ≤ R.slots → WG G w H → va_S G.2.2.2.1 s.heap H locs → lv_has ls μ.2.2.2.1 lo →
  W p G.1 e R s m args below meth c H locs cells slots (vx_MQ below (QJ G Q) (XQ G Q) args s mc ms G.2.2.2.1) (F0 m pc ls st)
/-- an exception of class E over the frame at pc -/
def XT (G : Gx) (μ : Mth) (d gc gs pc : Nat) (lo : List (Nat × Value)) (w : Wd) (Q : XRes → Wd → Prop) (E : String) : Prop :=
  ∀ (p : Program) (e : Env) (R : Room) (s : State) (m : MethodId) (args : Array Value) (below : List Frame) (meth : Method) (c : Code), Cx G μ d p R s m args meth c →
  ∀ (mc ms : Nat) (H : Heap) (locs : List Loc) (cells slots : Nat) (ls : Array Slot), cells + gc ≤ mc → slots + gs ≤ ms → mc ≤ R.cells → ms ≤ R.slots → WG G w H → va_S G.2.2.2.1 s.heap H locs → lv_has ls μ.2.2.2.1 lo →
  ∀ (q : Addr) (ce : Cell) (rest : List Value), H[q]? = some ce → ce.vm = .none → s.vm.findClass E = some ce.cls →
  vx_W p G.1 e R s m args below meth c H locs cells slots (vx_MQ below (QJ G Q) (XQ G Q) args s mc ms G.2.2.2.1) (F0 m pc ls rest) q
/-! ## worlds -/
theorem xw_at {w : Wd} {i : Nat} (h : i < w.2.1) : (xw w)[i]? = some (w.1 i, w.2.2 i) := by
  simp [xw, h]
theorem xw_set {w : Wd} {i : Nat} {e : va_E} (h : i < w.2.1) : (xw w).set i (w.1 i, e) = xw (setM w i e) := by
  apply List.ext_getElem?
  intro j
  simp only [xw, setM, List.getElem?_set, List.getElem?_map, List.length_map, List.length_range]
  by_cases hj : j < w.2.1
  · by_cases hij : i = j
    · subst hij
      simp [h]
    · have : Nat.beq j i = false := by
        cases hb : Nat.beq j i with
        | false => rfl
        | true => exact absurd (Nat.eq_of_beq_eq_true hb).symm hij
      simp [hij, hj, this]
  · have hne : i ≠ j := fun h2 => hj (h2 ▸ h)
    simp [hne, hj]
theorem xw_add {w : Wd} {q : Nat} {e : va_E} : xw w ++ [(q, e)] = xw (addM w q e) := by
  simp only [xw, addM, List.range_succ, List.map_append, List.map_cons, List.map_nil]
  have hb : Nat.beq w.2.1 w.2.1 = true := Nat.beq_refl _
  rw [hb]
  congr 1
  apply List.map_congr_left
  intro j hj
  have hj' : j < w.2.1 := List.mem_range.mp hj
  have : Nat.beq j w.2.1 = false := by
    cases hb : Nat.beq j w.2.1 with
    | false => rfl
    | true => exact absurd (Nat.eq_of_beq_eq_true hb) (by omega)
  rw [this]
  rfl
theorem setM_setM {w : Wd} {i : Nat} {e e' : va_E} : setM (setM w i e) i e' = setM w i e' := by
  simp only [setM]
  congr 2
  funext j
  cases Nat.beq j i <;> rfl
theorem setM_comm {w : Wd} {i k : Nat} {e e' : va_E} (h : i ≠ k) : setM (setM w i e) k e' = setM (setM w k e') i e := by
  simp only [setM]
  congr 2
  funext j
  cases hj : Nat.beq j k with
  | false => cases Nat.beq j i <;> rfl
  | true =>
    have hk := Nat.eq_of_beq_eq_true hj
    have hi : Nat.beq j i = false := by
      cases hb : Nat.beq j i with
      | false => rfl
      | true => exact absurd ((Nat.eq_of_beq_eq_true hb).symm.trans hk) h
    rw [hi]; rfl
theorem setM_id {w : Wd} {i : Nat} {e : va_E} (h : w.2.2 i = e) : setM w i e = w := by
  have : (fun j => bif Nat.beq j i then e else w.2.2 j) = w.2.2 := by
    funext j
    cases hj : Nat.beq j i with
    | false => rfl
    | true => rw [Nat.eq_of_beq_eq_true hj, h]; rfl
  simp only [setM, this]
theorem setM_at {w : Wd} {i : Nat} {e : va_E} : (setM w i e).2.2 i = e := by
  show (bif Nat.beq i i then e else w.2.2 i) = e
  rw [Nat.beq_refl]; rfl
theorem setM_ne {w : Wd} {i j : Nat} {e : va_E} (h : j ≠ i) : (setM w i e).2.2 j = w.2.2 j := by
  show (bif Nat.beq j i then e else w.2.2 j) = w.2.2 j
  have : Nat.beq j i = false := by
    cases hb : Nat.beq j i with
    | false => rfl
    | true => exact absurd (Nat.eq_of_beq_eq_true hb) h
  rw [this]; rfl
/-! ## the static part goes along -/
theorem SG.moved {G : Gx} {s U : State} {locs : List Loc} (h : SG G s) (hW : s.WarmedH U.vm) (hS : va_S G.2.2.2.1 s.heap U.heap locs) : SG G U := by
  obtain ⟨h1, h2, h3, h4, h5, h6, h7, h8, ⟨scr, x1, x2, x3, x4, x5⟩, x6, x7⟩ := h
  refine ⟨va_K.moved hW.alike h1, vx_Zq.moved hW.alike (vx_Zq.kept h2 hS.2.1), vx_Zq.moved hW.alike (vx_Zq.kept h3 hS.2.1), ?_, ?_, ?_, h7, fun q hq => h8 q (Nat.le_trans hS.1 hq), ⟨scr, by rw [hS.2.1 _ x6 x7]; exact x1, State.isArrayOf_alike hW.alike x2, x3, x4, x5⟩, Nat.lt_of_lt_of_le x6 hS.1, x7⟩
  · intro q hq
    obtain ⟨a, ha⟩ := h4 q hq
    exact ⟨a, vk_R.warm hW ha⟩
  · intro w hw
    exact xgood_warm hW w (List.mem_filter.mp hw).2 (h5 w hw)
  · intro q hq
    exact va_Nc.moved hW.alike (h6 q hq)
theorem SG.blind {G : Gx} {U : State} {g : JFrame} {mk : MethodId} {a : Array Value} (h : SG G U) : SG G (U.calling g mk a) := by
  obtain ⟨h1, h2, h3, h4, h5, h6, h7, h8, ⟨scr, x1, x2, x3, x4, x5⟩, x6, x7⟩ := h
  have hA : U.vm.Alike (U.calling g mk a).vm := Vm.Alike.refl U.vm
  refine ⟨va_K.moved hA h1, vx_Zq.moved (u := U) (U := U.calling g mk a) hA h2, vx_Zq.moved (u := U) (U := U.calling g mk a) hA h3, ?_, ?_, ?_, h7, h8, ⟨scr, x1, State.isArrayOf_alike hA x2, x3, x4, x5⟩, x6, x7⟩
  · intro q hq
    obtain ⟨a, ha⟩ := h4 q hq
    exact ⟨a, vk_R.same rfl ha⟩
  · intro w hw
    exact xgood_moved (args := #[]) (u := U) (U := U.calling g mk a) rfl w (List.mem_filter.mp hw).2 (h5 w hw)
  · intro q hq
    exact va_Nc.moved hA (h6 q hq)
end
section
/-! ROWS: an instruction that touches no heap, over XJ (written by gen/rows.py) -/
section XRows
def lkp : List (Nat × Value) → Nat → Option Value
  | [], _ => none
  | (k, v) :: t, i => bif Nat.beq k i then some v else lkp t i
theorem lkp_mem {lo : List (Nat × Value)} {i : Nat} {v : Value} (h : lkp lo i = some v) : (i, v) ∈ lo := by
  induction lo with
  | nil => cases h
  | cons q t ih =>
    obtain ⟨k, u⟩ := q
    cases hb : Nat.beq k i with
    | true =>
      have h' : (bif Nat.beq k i then some u else lkp t i) = some v := h
      rw [hb] at h'
      cases h'
      rw [Nat.eq_of_beq_eq_true hb]
      exact List.mem_cons_self
    | false =>
      have h' : (bif Nat.beq k i then some u else lkp t i) = some v := h
      rw [hb] at h'
      exact List.mem_cons_of_mem _ (ih h')
theorem lkp_at {lo : List (Nat × Value)} {ls : Array Slot} {nL i : Nat} {v : Value} (hl : lv_has ls nL lo) (h : lkp lo i = some v) : ls[i]? = some (.val v) := hl.2.2 _ (lkp_mem h)
theorem lkp_ix {lo : List (Nat × Value)} {i : Nat} {v : Value} (h : lkp lo i = some v) : ∃ j : Nat, lo[j]? = some (i, v) := List.getElem?_of_mem (lkp_mem h)
def vcat2 : Value → Bool
  | .long _ => true
  | .double _ => true
  | _ => false
/-- without slot i (and without a long that reaches into it) -/
def ldel (i : Nat) : List (Nat × Value) → List (Nat × Value)
  | [] => []
  | (k, v) :: t => bif (Nat.beq k i || (Nat.beq (k + 1) i && vcat2 v)) then ldel i t else (k, v) :: ldel i t
def lset1 (lo : List (Nat × Value)) (i : Nat) (v : Value) : List (Nat × Value) := (i, v) :: ldel i lo
theorem beq_nat (k i : Nat) : (k == i) = Nat.beq k i := by
  cases h : Nat.beq k i with
  | true => rw [Nat.eq_of_beq_eq_true h]; simp
  | false =>
    have : k ≠ i := fun h2 => by rw [h2, Nat.beq_refl] at h; cases h
    simp [this]
theorem vcat2_eq (v : Value) : Nat.beq v.category 2 = vcat2 v := by cases v <;> rfl
theorem ldel_eq (i : Nat) (lo : List (Nat × Value)) : lo.filter (fun q => !(q.1 == i) && !(q.1 + 1 == i && q.2.category == 2)) = ldel i lo := by
  induction lo with
  | nil => rfl
  | cons q t ih =>
    obtain ⟨k, v⟩ := q
    rw [List.filter_cons, ih]
    simp only [beq_nat, vcat2_eq, ldel]
    cases Nat.beq k i <;> cases Nat.beq (k + 1) i <;> cases vcat2 v <;> rfl
def ldel2 (i : Nat) : List (Nat × Value) → List (Nat × Value)
  | [] => []
  | (k, v) :: t => bif (Nat.beq k i || (Nat.beq k (i + 1) || (Nat.beq (k + 1) i && vcat2 v))) then ldel2 i t else (k, v) :: ldel2 i t
def lset2 (lo : List (Nat × Value)) (i : Nat) (v : Value) : List (Nat × Value) := (i, v) :: ldel2 i lo
theorem ldel2_eq (i : Nat) (lo : List (Nat × Value)) : lo.filter (fun q => !(q.1 == i) && (!(q.1 == i + 1) && !(q.1 + 1 == i && q.2.category == 2))) = ldel2 i lo := by
  induction lo with
  | nil => rfl
  | cons q t ih =>
    obtain ⟨k, v⟩ := q
    rw [List.filter_cons, ih]
    simp only [beq_nat, vcat2_eq, ldel2]
    cases Nat.beq k i <;> cases Nat.beq k (i + 1) <;> cases Nat.beq (k + 1) i <;> cases vcat2 v <;> rfl
theorem lset1_eq {lo lo' : List (Nat × Value)} {i : Nat} {v : Value} (h : lset1 lo i v = lo') : (i, v) :: lo.filter (fun q => !(q.1 == i) && !(q.1 + 1 == i && q.2.category == 2)) = lo' := by
  rw [ldel_eq]; exact h
theorem lset2_eq {lo lo' : List (Nat × Value)} {i : Nat} {v : Value} (h : lset2 lo i v = lo') : (i, v) :: lo.filter (fun q => !(q.1 == i) && (!(q.1 == i + 1) && !(q.1 + 1 == i && q.2.category == 2))) = lo' := by
  rw [ldel2_eq]; exact h
variable {G : Gx} {μ : Mth} {d gc gs pc : Nat} {lo : List (Nat × Value)} {st : List Value} {w : Wd} {Q : XRes → Wd → Prop}
theorem XJ.step {pc2 : Nat} {st2 : List Value}
    (h : ∀ {p : Program} {l : Launch} {e : Env} {R : Room} {s : State} {m : MethodId} {args : Array Value} {below : List Frame} {meth : Method} {c : Code} {H : Heap} {locs : List Loc} {cells slots : Nat} {QQ : State → Prop},
      p.tables.exec = Jvm.exec → c.code = μ.2.2.1 → s.vm.findClass μ.1 = some m.cls → (∀ w ∈ xall, w.before args s = true) → SG G s → ∀ ls : Array Slot, lv_has ls μ.2.2.2.1 lo → W p l e R s m args below meth c H locs cells slots QQ (F0 m pc2 ls st2) → W p l e R s m args below meth c H locs cells slots QQ (F0 m pc ls st))
    (k : XJ G μ d gc gs pc2 lo st2 w Q) : XJ G μ d gc gs pc lo st w Q := by
  intro p e R s m args below meth c hc mc ms H locs cells slots ls h1 h2 h3 h4 hw hS hl
  exact h hc.2.1 hc.2.2.1 hc.2.2.2.2.1 hc.2.2.2.2.2.1 hc.1 ls hl (k p e R s m args below meth c hc mc ms H locs cells slots ls h1 h2 h3 h4 hw hS hl)
theorem XJ.stepL {pc2 : Nat} {st2 : List Value} {lo2 : List (Nat × Value)}
    (h : ∀ {p : Program} {l : Launch} {e : Env} {R : Room} {s : State} {m : MethodId} {args : Array Value} {below : List Frame} {meth : Method} {c : Code} {H : Heap} {locs : List Loc} {cells slots : Nat} {QQ : State → Prop},
      p.tables.exec = Jvm.exec → c.code = μ.2.2.1 → ∀ ls : Array Slot, lv_has ls μ.2.2.2.1 lo → (∀ ls' : Array Slot, lv_has ls' μ.2.2.2.1 lo2 → W p l e R s m args below meth c H locs cells slots QQ (F0 m pc2 ls' st2)) → W p l e R s m args below meth c H locs cells slots QQ (F0 m pc ls st))
    (k : XJ G μ d gc gs pc2 lo2 st2 w Q) : XJ G μ d gc gs pc lo st w Q := by
  intro p e R s m args below meth c hc mc ms H locs cells slots ls h1 h2 h3 h4 hw hS hl
  exact h hc.2.1 hc.2.2.1 ls hl (fun ls' hl' => k p e R s m args below meth c hc mc ms H locs cells slots ls' h1 h2 h3 h4 hw hS hl')
/-- other locals, less of them -/
theorem XJ.loc {lo' : List (Nat × Value)} (h : ∀ q ∈ lo', q ∈ lo) (k : XJ G μ d gc gs pc lo' st w Q) : XJ G μ d gc gs pc lo st w Q := by
  intro p e R s m args below meth c hc mc ms H locs cells slots ls h1 h2 h3 h4 hw hS hl
  exact k p e R s m args below meth c hc mc ms H locs cells slots ls h1 h2 h3 h4 hw hS ⟨hl.1, hl.2.1, fun q hq => hl.2.2 q (h q hq)⟩
/-- the locals of the list are found in the other -/
def lsub (lo' lo : List (Nat × Value)) : Prop := ∀ q ∈ lo', lkp lo q.1 = some q.2
theorem XJ.los {lo' : List (Nat × Value)} (h : ∀ q ∈ lo', lkp lo q.1 = some q.2) (k : XJ G μ d gc gs pc lo' st w Q) : XJ G μ d gc gs pc lo st w Q := XJ.loc (fun q hq => lkp_mem (h q hq)) k
theorem XJ.wd {w' : Wd} (h : w = w') (k : XJ G μ d gc gs pc lo st w' Q) : XJ G μ d gc gs pc lo st w Q := h ▸ k
theorem XJ.mono {Q' : XRes → Wd → Prop} (h : ∀ r w', Q r w' → Q' r w') (k : XJ G μ d gc gs pc lo st w Q) : XJ G μ d gc gs pc lo st w Q' := by
  intro p e R s m args below meth c hc mc ms H locs cells slots ls h1 h2 h3 h4 hw hS hl T hT X
  obtain ⟨t, st', o, h5, h6, h7⟩ := k p e R s m args below meth c hc mc ms H locs cells slots ls h1 h2 h3 h4 hw hS hl T hT X
  refine ⟨t, st', o, h5, h6, ?_⟩
  rcases h7 with ⟨⟨⟨v, w', e1, e2, e3⟩, e4⟩, e5⟩ | ⟨q, e1, E, ce, L, ⟨⟨w', e2, e3⟩, e4⟩, e5⟩
  · exact Or.inl ⟨⟨⟨v, w', e1, h _ _ e2, e3⟩, e4⟩, e5⟩
  · exact Or.inr ⟨q, e1, E, ce, L, ⟨⟨w', h _ _ e2, e3⟩, e4⟩, e5⟩
/-- fewer cells and slots to make -/
theorem XJ.less {gc' gs' : Nat} (h1 : gc' ≤ gc) (h2 : gs' ≤ gs) (k : XJ G μ d gc' gs' pc lo st w Q) : XJ G μ d gc gs pc lo st w Q := by
  intro p e R s m args below meth c hc mc ms H locs cells slots ls a1 a2 a3 a4 hw hS hl
  exact k p e R s m args below meth c hc mc ms H locs cells slots ls (by omega) (by omega) a3 a4 hw hS hl
theorem X_iconst {n : Int} {v : Int32} (hd : decode μ.2.2.1 pc = .ok (.iconst n, 1)) (hv : Int32.ofInt n = v) (k : XJ G μ d gc gs (pc + 1) lo (.int v :: st) w Q) : XJ G μ d gc gs pc lo (st) w Q :=
  XJ.step (fun hx hb hown ht hS ls hl kk => lv_iconst hx hb hd hv kk) k
theorem X_bipush {n : Int} {v : Int32} (hd : decode μ.2.2.1 pc = .ok (.bipush n, 2)) (hv : (Int8.ofInt n).toInt32 = v) (k : XJ G μ d gc gs (pc + 2) lo (.int v :: st) w Q) : XJ G μ d gc gs pc lo (st) w Q :=
  XJ.step (fun hx hb hown ht hS ls hl kk => lv_bipush hx hb hd hv kk) k
theorem X_sipush {n : Int} {v : Int32} (hd : decode μ.2.2.1 pc = .ok (.sipush n, 3)) (hv : (Int16.ofInt n).toInt32 = v) (k : XJ G μ d gc gs (pc + 3) lo (.int v :: st) w Q) : XJ G μ d gc gs pc lo (st) w Q :=
  XJ.step (fun hx hb hown ht hS ls hl kk => lv_sipush hx hb hd hv kk) k
theorem X_lconst {n : Fin 2} {v : Int64} (hd : decode μ.2.2.1 pc = .ok (.lconst n, 1)) (hv : Int64.ofNat (n : Nat) = v) (k : XJ G μ d gc gs (pc + 1) lo (.long v :: st) w Q) : XJ G μ d gc gs pc lo (st) w Q :=
  XJ.step (fun hx hb hown ht hS ls hl kk => lv_lconst hx hb hd hv kk) k
theorem X_fconst0 (hd : decode μ.2.2.1 pc = .ok (.fconst 0, 1)) (k : XJ G μ d gc gs (pc + 1) lo (.float FP.fconst0 :: st) w Q) : XJ G μ d gc gs pc lo (st) w Q :=
  XJ.step (fun hx hb hown ht hS ls hl kk => lv_fconst0 hx hb hd kk) k
theorem X_fconst1 (hd : decode μ.2.2.1 pc = .ok (.fconst 1, 1)) (k : XJ G μ d gc gs (pc + 1) lo (.float FP.fconst1 :: st) w Q) : XJ G μ d gc gs pc lo (st) w Q :=
  XJ.step (fun hx hb hown ht hS ls hl kk => lv_fconst1 hx hb hd kk) k
theorem X_fconst2 (hd : decode μ.2.2.1 pc = .ok (.fconst 2, 1)) (k : XJ G μ d gc gs (pc + 1) lo (.float FP.fconst2 :: st) w Q) : XJ G μ d gc gs pc lo (st) w Q :=
  XJ.step (fun hx hb hown ht hS ls hl kk => lv_fconst2 hx hb hd kk) k
theorem X_dconst0 (hd : decode μ.2.2.1 pc = .ok (.dconst 0, 1)) (k : XJ G μ d gc gs (pc + 1) lo (.double FP.dconst0 :: st) w Q) : XJ G μ d gc gs pc lo (st) w Q :=
  XJ.step (fun hx hb hown ht hS ls hl kk => lv_dconst0 hx hb hd kk) k
theorem X_dconst1 (hd : decode μ.2.2.1 pc = .ok (.dconst 1, 1)) (k : XJ G μ d gc gs (pc + 1) lo (.double FP.dconst1 :: st) w Q) : XJ G μ d gc gs pc lo (st) w Q :=
  XJ.step (fun hx hb hown ht hS ls hl kk => lv_dconst1 hx hb hd kk) k
theorem X_ldc {index : Nat} {v : Int32} (hd : decode μ.2.2.1 pc = .ok (.ldc index, 2)) (hc : Cond.constant μ.1 index v ∈ xall) (k : XJ G μ d gc gs (pc + 2) lo (.int v :: st) w Q) : XJ G μ d gc gs pc lo (st) w Q :=
  XJ.step (fun hx hb hown ht hS ls hl kk => lv_ldc hx hb hown (ht _ hc) hd kk) k
theorem X_ldcf {index : Nat} {v : UInt32} (hd : decode μ.2.2.1 pc = .ok (.ldc index, 2)) (hc : Cond.constantFloat μ.1 index v ∈ xall) (k : XJ G μ d gc gs (pc + 2) lo (.float v :: st) w Q) : XJ G μ d gc gs pc lo (st) w Q :=
  XJ.step (fun hx hb hown ht hS ls hl kk => lv_ldcf hx hb hown (ht _ hc) hd kk) k
theorem X_ldc2 {index : Nat} {v : Int64} (hd : decode μ.2.2.1 pc = .ok (.ldc2_w index, 3)) (hc : Cond.constantLong μ.1 index v ∈ xall) (k : XJ G μ d gc gs (pc + 3) lo (.long v :: st) w Q) : XJ G μ d gc gs pc lo (st) w Q :=
  XJ.step (fun hx hb hown ht hS ls hl kk => lv_ldc2 hx hb hown (ht _ hc) hd kk) k
theorem X_ldc2d {index : Nat} {v : UInt64} (hd : decode μ.2.2.1 pc = .ok (.ldc2_w index, 3)) (hc : Cond.constantDouble μ.1 index v ∈ xall) (k : XJ G μ d gc gs (pc + 3) lo (.double v :: st) w Q) : XJ G μ d gc gs pc lo (st) w Q :=
  XJ.step (fun hx hb hown ht hS ls hl kk => lv_ldc2d hx hb hown (ht _ hc) hd kk) k
theorem X_iload_n {k0 : Fin 4} {i : Nat} {x : Int32} (hd : decode μ.2.2.1 pc = .ok (.iload_n k0, 1)) (hi : (k0 : Nat) = i) (hv : lkp lo i = some (.int x)) (k : XJ G μ d gc gs (pc + 1) lo (.int x :: st) w Q) : XJ G μ d gc gs pc lo (st) w Q :=
  XJ.step (fun hx hb hown ht hS ls hl kk => lv_iload_n hx hb hd hi (lkp_at hl hv) kk) k
theorem X_iload {i : Nat} {x : Int32} (hd : decode μ.2.2.1 pc = .ok (.iload i, 2)) (hv : lkp lo i = some (.int x)) (k : XJ G μ d gc gs (pc + 2) lo (.int x :: st) w Q) : XJ G μ d gc gs pc lo (st) w Q :=
  XJ.step (fun hx hb hown ht hS ls hl kk => lv_iload hx hb hd (lkp_at hl hv) kk) k
theorem X_lload_n {k0 : Fin 4} {i : Nat} {x : Int64} (hd : decode μ.2.2.1 pc = .ok (.lload_n k0, 1)) (hi : (k0 : Nat) = i) (hv : lkp lo i = some (.long x)) (k : XJ G μ d gc gs (pc + 1) lo (.long x :: st) w Q) : XJ G μ d gc gs pc lo (st) w Q :=
  XJ.step (fun hx hb hown ht hS ls hl kk => lv_lload_n hx hb hd hi (lkp_at hl hv) kk) k
theorem X_lload {i : Nat} {x : Int64} (hd : decode μ.2.2.1 pc = .ok (.lload i, 2)) (hv : lkp lo i = some (.long x)) (k : XJ G μ d gc gs (pc + 2) lo (.long x :: st) w Q) : XJ G μ d gc gs pc lo (st) w Q :=
  XJ.step (fun hx hb hown ht hS ls hl kk => lv_lload hx hb hd (lkp_at hl hv) kk) k
theorem X_fload_n {k0 : Fin 4} {i : Nat} {x : UInt32} (hd : decode μ.2.2.1 pc = .ok (.fload_n k0, 1)) (hi : (k0 : Nat) = i) (hv : lkp lo i = some (.float x)) (k : XJ G μ d gc gs (pc + 1) lo (.float x :: st) w Q) : XJ G μ d gc gs pc lo (st) w Q :=
  XJ.step (fun hx hb hown ht hS ls hl kk => lv_fload_n hx hb hd hi (lkp_at hl hv) kk) k
theorem X_fload {i : Nat} {x : UInt32} (hd : decode μ.2.2.1 pc = .ok (.fload i, 2)) (hv : lkp lo i = some (.float x)) (k : XJ G μ d gc gs (pc + 2) lo (.float x :: st) w Q) : XJ G μ d gc gs pc lo (st) w Q :=
  XJ.step (fun hx hb hown ht hS ls hl kk => lv_fload hx hb hd (lkp_at hl hv) kk) k
theorem X_dload_n {k0 : Fin 4} {i : Nat} {x : UInt64} (hd : decode μ.2.2.1 pc = .ok (.dload_n k0, 1)) (hi : (k0 : Nat) = i) (hv : lkp lo i = some (.double x)) (k : XJ G μ d gc gs (pc + 1) lo (.double x :: st) w Q) : XJ G μ d gc gs pc lo (st) w Q :=
  XJ.step (fun hx hb hown ht hS ls hl kk => lv_dload_n hx hb hd hi (lkp_at hl hv) kk) k
theorem X_dload {i : Nat} {x : UInt64} (hd : decode μ.2.2.1 pc = .ok (.dload i, 2)) (hv : lkp lo i = some (.double x)) (k : XJ G μ d gc gs (pc + 2) lo (.double x :: st) w Q) : XJ G μ d gc gs pc lo (st) w Q :=
  XJ.step (fun hx hb hown ht hS ls hl kk => lv_dload hx hb hd (lkp_at hl hv) kk) k
theorem X_aload_n {k0 : Fin 4} {i : Nat} {x : Nat} (hd : decode μ.2.2.1 pc = .ok (.aload_n k0, 1)) (hi : (k0 : Nat) = i) (hv : lkp lo i = some (.ref x)) (k : XJ G μ d gc gs (pc + 1) lo (.ref x :: st) w Q) : XJ G μ d gc gs pc lo (st) w Q :=
  XJ.step (fun hx hb hown ht hS ls hl kk => lv_aload_n hx hb hd hi (lkp_at hl hv) kk) k
theorem X_aload {i : Nat} {x : Nat} (hd : decode μ.2.2.1 pc = .ok (.aload i, 2)) (hv : lkp lo i = some (.ref x)) (k : XJ G μ d gc gs (pc + 2) lo (.ref x :: st) w Q) : XJ G μ d gc gs pc lo (st) w Q :=
  XJ.step (fun hx hb hown ht hS ls hl kk => lv_aload hx hb hd (lkp_at hl hv) kk) k
theorem X_istore_n {k0 : Fin 4} {i : Nat} {x : Int32} {lo' : List (Nat × Value)} (hd : decode μ.2.2.1 pc = .ok (.istore_n k0, 1)) (hi : (k0 : Nat) = i) (hn : i < μ.2.2.2.1) (hl0 : lset1 lo i (.int x) = lo') (k : XJ G μ d gc gs (pc + 1) lo' st w Q) : XJ G μ d gc gs pc lo (.int x :: st) w Q :=
  XJ.stepL (fun hx hb ls hl kk => lv_istore_n hx hb hd hi hl hn (lset1_eq hl0) kk) k
theorem X_istore {i : Nat} {x : Int32} {lo' : List (Nat × Value)} (hd : decode μ.2.2.1 pc = .ok (.istore i, 2)) (hn : i < μ.2.2.2.1) (hl0 : lset1 lo i (.int x) = lo') (k : XJ G μ d gc gs (pc + 2) lo' st w Q) : XJ G μ d gc gs pc lo (.int x :: st) w Q :=
  XJ.stepL (fun hx hb ls hl kk => lv_istore hx hb hd hl hn (lset1_eq hl0) kk) k
theorem X_lstore_n {k0 : Fin 4} {i : Nat} {x : Int64} {lo' : List (Nat × Value)} (hd : decode μ.2.2.1 pc = .ok (.lstore_n k0, 1)) (hi : (k0 : Nat) = i) (hn : i + 1 < μ.2.2.2.1) (hl0 : lset2 lo i (.long x) = lo') (k : XJ G μ d gc gs (pc + 1) lo' st w Q) : XJ G μ d gc gs pc lo (.long x :: st) w Q :=
  XJ.stepL (fun hx hb ls hl kk => lv_lstore_n hx hb hd hi hl hn (lset2_eq hl0) kk) k
theorem X_lstore {i : Nat} {x : Int64} {lo' : List (Nat × Value)} (hd : decode μ.2.2.1 pc = .ok (.lstore i, 2)) (hn : i + 1 < μ.2.2.2.1) (hl0 : lset2 lo i (.long x) = lo') (k : XJ G μ d gc gs (pc + 2) lo' st w Q) : XJ G μ d gc gs pc lo (.long x :: st) w Q :=
  XJ.stepL (fun hx hb ls hl kk => lv_lstore hx hb hd hl hn (lset2_eq hl0) kk) k
theorem X_fstore_n {k0 : Fin 4} {i : Nat} {x : UInt32} {lo' : List (Nat × Value)} (hd : decode μ.2.2.1 pc = .ok (.fstore_n k0, 1)) (hi : (k0 : Nat) = i) (hn : i < μ.2.2.2.1) (hl0 : lset1 lo i (.float x) = lo') (k : XJ G μ d gc gs (pc + 1) lo' st w Q) : XJ G μ d gc gs pc lo (.float x :: st) w Q :=
  XJ.stepL (fun hx hb ls hl kk => lv_fstore_n hx hb hd hi hl hn (lset1_eq hl0) kk) k
theorem X_fstore {i : Nat} {x : UInt32} {lo' : List (Nat × Value)} (hd : decode μ.2.2.1 pc = .ok (.fstore i, 2)) (hn : i < μ.2.2.2.1) (hl0 : lset1 lo i (.float x) = lo') (k : XJ G μ d gc gs (pc + 2) lo' st w Q) : XJ G μ d gc gs pc lo (.float x :: st) w Q :=
  XJ.stepL (fun hx hb ls hl kk => lv_fstore hx hb hd hl hn (lset1_eq hl0) kk) k
theorem X_dstore_n {k0 : Fin 4} {i : Nat} {x : UInt64} {lo' : List (Nat × Value)} (hd : decode μ.2.2.1 pc = .ok (.dstore_n k0, 1)) (hi : (k0 : Nat) = i) (hn : i + 1 < μ.2.2.2.1) (hl0 : lset2 lo i (.double x) = lo') (k : XJ G μ d gc gs (pc + 1) lo' st w Q) : XJ G μ d gc gs pc lo (.double x :: st) w Q :=
  XJ.stepL (fun hx hb ls hl kk => lv_dstore_n hx hb hd hi hl hn (lset2_eq hl0) kk) k
theorem X_dstore {i : Nat} {x : UInt64} {lo' : List (Nat × Value)} (hd : decode μ.2.2.1 pc = .ok (.dstore i, 2)) (hn : i + 1 < μ.2.2.2.1) (hl0 : lset2 lo i (.double x) = lo') (k : XJ G μ d gc gs (pc + 2) lo' st w Q) : XJ G μ d gc gs pc lo (.double x :: st) w Q :=
  XJ.stepL (fun hx hb ls hl kk => lv_dstore hx hb hd hl hn (lset2_eq hl0) kk) k
theorem X_astore_n {k0 : Fin 4} {i : Nat} {x : Nat} {lo' : List (Nat × Value)} (hd : decode μ.2.2.1 pc = .ok (.astore_n k0, 1)) (hi : (k0 : Nat) = i) (hn : i < μ.2.2.2.1) (hl0 : lset1 lo i (.ref x) = lo') (k : XJ G μ d gc gs (pc + 1) lo' st w Q) : XJ G μ d gc gs pc lo (.ref x :: st) w Q :=
  XJ.stepL (fun hx hb ls hl kk => lv_astore_n hx hb hd hi hl hn (lset1_eq hl0) kk) k
theorem X_astore {i : Nat} {x : Nat} {lo' : List (Nat × Value)} (hd : decode μ.2.2.1 pc = .ok (.astore i, 2)) (hn : i < μ.2.2.2.1) (hl0 : lset1 lo i (.ref x) = lo') (k : XJ G μ d gc gs (pc + 2) lo' st w Q) : XJ G μ d gc gs pc lo (.ref x :: st) w Q :=
  XJ.stepL (fun hx hb ls hl kk => lv_astore hx hb hd hl hn (lset1_eq hl0) kk) k
theorem X_iinc {i : Nat} {n : Int} {x v : Int32} {lo' : List (Nat × Value)} (hd : decode μ.2.2.1 pc = .ok (.iinc i n, 3)) (hg : lkp lo i = some (.int x)) (hv : x + Int32.ofInt n = v) (hn : i < μ.2.2.2.1) (hl0 : lset1 lo i (.int v) = lo') (k : XJ G μ d gc gs (pc + 3) lo' st w Q) : XJ G μ d gc gs pc lo st w Q := by
  obtain ⟨j, hj⟩ := lkp_ix hg
  exact XJ.stepL (fun hx hb ls hl kk => lv_iinc hx hb hd hl hj hv hn (lset1_eq hl0) kk) k
theorem X_iadd {x y : Int32} (hd : decode μ.2.2.1 pc = .ok (.iadd, 1)) (k : XJ G μ d gc gs (pc + 1) lo (.int (x + y) :: st) w Q) : XJ G μ d gc gs pc lo (.int y :: .int x :: st) w Q :=
  XJ.step (fun hx hb hown ht hS ls hl kk => lv_iadd hx hb hd kk) k
theorem X_isub {x y : Int32} (hd : decode μ.2.2.1 pc = .ok (.isub, 1)) (k : XJ G μ d gc gs (pc + 1) lo (.int (x - y) :: st) w Q) : XJ G μ d gc gs pc lo (.int y :: .int x :: st) w Q :=
  XJ.step (fun hx hb hown ht hS ls hl kk => lv_isub hx hb hd kk) k
theorem X_imul {x y : Int32} (hd : decode μ.2.2.1 pc = .ok (.imul, 1)) (k : XJ G μ d gc gs (pc + 1) lo (.int (x * y) :: st) w Q) : XJ G μ d gc gs pc lo (.int y :: .int x :: st) w Q :=
  XJ.step (fun hx hb hown ht hS ls hl kk => lv_imul hx hb hd kk) k
theorem X_iand {x y : Int32} (hd : decode μ.2.2.1 pc = .ok (.iand, 1)) (k : XJ G μ d gc gs (pc + 1) lo (.int (x &&& y) :: st) w Q) : XJ G μ d gc gs pc lo (.int y :: .int x :: st) w Q :=
  XJ.step (fun hx hb hown ht hS ls hl kk => lv_iand hx hb hd kk) k
theorem X_ior {x y : Int32} (hd : decode μ.2.2.1 pc = .ok (.ior, 1)) (k : XJ G μ d gc gs (pc + 1) lo (.int (x ||| y) :: st) w Q) : XJ G μ d gc gs pc lo (.int y :: .int x :: st) w Q :=
  XJ.step (fun hx hb hown ht hS ls hl kk => lv_ior hx hb hd kk) k
theorem X_ixor {x y : Int32} (hd : decode μ.2.2.1 pc = .ok (.ixor, 1)) (k : XJ G μ d gc gs (pc + 1) lo (.int (x ^^^ y) :: st) w Q) : XJ G μ d gc gs pc lo (.int y :: .int x :: st) w Q :=
  XJ.step (fun hx hb hown ht hS ls hl kk => lv_ixor hx hb hd kk) k
theorem X_ishl {x y : Int32} (hd : decode μ.2.2.1 pc = .ok (.ishl, 1)) (k : XJ G μ d gc gs (pc + 1) lo (.int (x <<< (y &&& 31)) :: st) w Q) : XJ G μ d gc gs pc lo (.int y :: .int x :: st) w Q :=
  XJ.step (fun hx hb hown ht hS ls hl kk => lv_ishl hx hb hd kk) k
theorem X_ishr {x y : Int32} (hd : decode μ.2.2.1 pc = .ok (.ishr, 1)) (k : XJ G μ d gc gs (pc + 1) lo (.int (x >>> (y &&& 31)) :: st) w Q) : XJ G μ d gc gs pc lo (.int y :: .int x :: st) w Q :=
  XJ.step (fun hx hb hown ht hS ls hl kk => lv_ishr hx hb hd kk) k
theorem X_ladd {x y : Int64} (hd : decode μ.2.2.1 pc = .ok (.ladd, 1)) (k : XJ G μ d gc gs (pc + 1) lo (.long (x + y) :: st) w Q) : XJ G μ d gc gs pc lo (.long y :: .long x :: st) w Q :=
  XJ.step (fun hx hb hown ht hS ls hl kk => lv_ladd hx hb hd kk) k
theorem X_lsub {x y : Int64} (hd : decode μ.2.2.1 pc = .ok (.lsub, 1)) (k : XJ G μ d gc gs (pc + 1) lo (.long (x - y) :: st) w Q) : XJ G μ d gc gs pc lo (.long y :: .long x :: st) w Q :=
  XJ.step (fun hx hb hown ht hS ls hl kk => lv_lsub hx hb hd kk) k
theorem X_lmul {x y : Int64} (hd : decode μ.2.2.1 pc = .ok (.lmul, 1)) (k : XJ G μ d gc gs (pc + 1) lo (.long (x * y) :: st) w Q) : XJ G μ d gc gs pc lo (.long y :: .long x :: st) w Q :=
  XJ.step (fun hx hb hown ht hS ls hl kk => lv_lmul hx hb hd kk) k
theorem X_lor {x y : Int64} (hd : decode μ.2.2.1 pc = .ok (.lor, 1)) (k : XJ G μ d gc gs (pc + 1) lo (.long (x ||| y) :: st) w Q) : XJ G μ d gc gs pc lo (.long y :: .long x :: st) w Q :=
  XJ.step (fun hx hb hown ht hS ls hl kk => lv_lor hx hb hd kk) k
theorem X_ldiv {x y : Int64} (hd : decode μ.2.2.1 pc = .ok (.ldiv, 1)) (hne : ¬ y = 0) (k : XJ G μ d gc gs (pc + 1) lo (.long (x / y) :: st) w Q) : XJ G μ d gc gs pc lo (.long y :: .long x :: st) w Q :=
  XJ.step (fun hx hb hown ht hS ls hl kk => lv_ldiv hx hb hd hne kk) k
theorem X_lrem {x y : Int64} (hd : decode μ.2.2.1 pc = .ok (.lrem, 1)) (hne : ¬ y = 0) (k : XJ G μ d gc gs (pc + 1) lo (.long (x - x / y * y) :: st) w Q) : XJ G μ d gc gs pc lo (.long y :: .long x :: st) w Q :=
  XJ.step (fun hx hb hown ht hS ls hl kk => lv_lrem hx hb hd hne kk) k
theorem X_lshl {x v : Int64} {y : Int32} (hd : decode μ.2.2.1 pc = .ok (.lshl, 1)) (hv : x <<< (y.toInt64 &&& 63) = v) (k : XJ G μ d gc gs (pc + 1) lo (.long v :: st) w Q) : XJ G μ d gc gs pc lo (.int y :: .long x :: st) w Q :=
  XJ.step (fun hx hb hown ht hS ls hl kk => lv_lshl hx hb hd hv kk) k
theorem X_i2l {x : Int32} {v : Int64} (hd : decode μ.2.2.1 pc = .ok (.i2l, 1)) (hv : x.toInt64 = v) (k : XJ G μ d gc gs (pc + 1) lo (.long v :: st) w Q) : XJ G μ d gc gs pc lo (.int x :: st) w Q :=
  XJ.step (fun hx hb hown ht hS ls hl kk => lv_i2l hx hb hd hv kk) k
theorem X_l2i {x : Int64} {v : Int32} (hd : decode μ.2.2.1 pc = .ok (.l2i, 1)) (hv : x.toInt32 = v) (k : XJ G μ d gc gs (pc + 1) lo (.int v :: st) w Q) : XJ G μ d gc gs pc lo (.long x :: st) w Q :=
  XJ.step (fun hx hb hown ht hS ls hl kk => lv_l2i hx hb hd hv kk) k
theorem X_i2c {x v : Int32} (hd : decode μ.2.2.1 pc = .ok (.i2c, 1)) (hv : (x.toUInt32 % 65536).toInt32 = v) (k : XJ G μ d gc gs (pc + 1) lo (.int v :: st) w Q) : XJ G μ d gc gs pc lo (.int x :: st) w Q :=
  XJ.step (fun hx hb hown ht hS ls hl kk => lv_i2c hx hb hd hv kk) k
theorem X_i2f {x : Int32} (hd : decode μ.2.2.1 pc = .ok (.i2f, 1)) (k : XJ G μ d gc gs (pc + 1) lo (.float (FP.i2f x) :: st) w Q) : XJ G μ d gc gs pc lo (.int x :: st) w Q :=
  XJ.step (fun hx hb hown ht hS ls hl kk => lv_i2f hx hb hd kk) k
theorem X_i2d {x : Int32} (hd : decode μ.2.2.1 pc = .ok (.i2d, 1)) (k : XJ G μ d gc gs (pc + 1) lo (.double (FP.i2d x) :: st) w Q) : XJ G μ d gc gs pc lo (.int x :: st) w Q :=
  XJ.step (fun hx hb hown ht hS ls hl kk => lv_i2d hx hb hd kk) k
theorem X_f2i {x : UInt32} (hd : decode μ.2.2.1 pc = .ok (.f2i, 1)) (k : XJ G μ d gc gs (pc + 1) lo (.int (FP.f2i x) :: st) w Q) : XJ G μ d gc gs pc lo (.float x :: st) w Q :=
  XJ.step (fun hx hb hown ht hS ls hl kk => lv_f2i hx hb hd kk) k
theorem X_d2l {x : UInt64} (hd : decode μ.2.2.1 pc = .ok (.d2l, 1)) (k : XJ G μ d gc gs (pc + 1) lo (.long (FP.d2l x) :: st) w Q) : XJ G μ d gc gs pc lo (.double x :: st) w Q :=
  XJ.step (fun hx hb hown ht hS ls hl kk => lv_d2l hx hb hd kk) k
theorem X_f2d {x : UInt32} (hd : decode μ.2.2.1 pc = .ok (.f2d, 1)) (hne : vf_n64 (FP.f2d x)) (k : XJ G μ d gc gs (pc + 1) lo (.double (FP.f2d x) :: st) w Q) : XJ G μ d gc gs pc lo (.float x :: st) w Q :=
  XJ.step (fun hx hb hown ht hS ls hl kk => lv_f2d hx hb hd hne kk) k
theorem X_fadd {x y : UInt32} (hd : decode μ.2.2.1 pc = .ok (.fadd, 1)) (hne : vf_n32 (FP.fadd x y)) (k : XJ G μ d gc gs (pc + 1) lo (.float (FP.fadd x y) :: st) w Q) : XJ G μ d gc gs pc lo (.float y :: .float x :: st) w Q :=
  XJ.step (fun hx hb hown ht hS ls hl kk => lv_fadd hx hb hd hne kk) k
theorem X_fsub {x y : UInt32} (hd : decode μ.2.2.1 pc = .ok (.fsub, 1)) (hne : vf_n32 (FP.fsub x y)) (k : XJ G μ d gc gs (pc + 1) lo (.float (FP.fsub x y) :: st) w Q) : XJ G μ d gc gs pc lo (.float y :: .float x :: st) w Q :=
  XJ.step (fun hx hb hown ht hS ls hl kk => lv_fsub hx hb hd hne kk) k
theorem X_fmul {x y : UInt32} (hd : decode μ.2.2.1 pc = .ok (.fmul, 1)) (hne : vf_n32 (FP.fmul x y)) (k : XJ G μ d gc gs (pc + 1) lo (.float (FP.fmul x y) :: st) w Q) : XJ G μ d gc gs pc lo (.float y :: .float x :: st) w Q :=
  XJ.step (fun hx hb hown ht hS ls hl kk => lv_fmul hx hb hd hne kk) k
theorem X_fdiv {x y : UInt32} (hd : decode μ.2.2.1 pc = .ok (.fdiv, 1)) (hne : vf_n32 (FP.fdiv x y)) (k : XJ G μ d gc gs (pc + 1) lo (.float (FP.fdiv x y) :: st) w Q) : XJ G μ d gc gs pc lo (.float y :: .float x :: st) w Q :=
  XJ.step (fun hx hb hown ht hS ls hl kk => lv_fdiv hx hb hd hne kk) k
theorem X_dadd {x y : UInt64} (hd : decode μ.2.2.1 pc = .ok (.dadd, 1)) (hne : vf_n64 (FP.dadd x y)) (k : XJ G μ d gc gs (pc + 1) lo (.double (FP.dadd x y) :: st) w Q) : XJ G μ d gc gs pc lo (.double y :: .double x :: st) w Q :=
  XJ.step (fun hx hb hown ht hS ls hl kk => lv_dadd hx hb hd hne kk) k
theorem X_dsub {x y : UInt64} (hd : decode μ.2.2.1 pc = .ok (.dsub, 1)) (hne : vf_n64 (FP.dsub x y)) (k : XJ G μ d gc gs (pc + 1) lo (.double (FP.dsub x y) :: st) w Q) : XJ G μ d gc gs pc lo (.double y :: .double x :: st) w Q :=
  XJ.step (fun hx hb hown ht hS ls hl kk => lv_dsub hx hb hd hne kk) k
theorem X_dmul {x y : UInt64} (hd : decode μ.2.2.1 pc = .ok (.dmul, 1)) (hne : vf_n64 (FP.dmul x y)) (k : XJ G μ d gc gs (pc + 1) lo (.double (FP.dmul x y) :: st) w Q) : XJ G μ d gc gs pc lo (.double y :: .double x :: st) w Q :=
  XJ.step (fun hx hb hown ht hS ls hl kk => lv_dmul hx hb hd hne kk) k
theorem X_ddiv {x y : UInt64} (hd : decode μ.2.2.1 pc = .ok (.ddiv, 1)) (hne : vf_n64 (FP.ddiv x y)) (k : XJ G μ d gc gs (pc + 1) lo (.double (FP.ddiv x y) :: st) w Q) : XJ G μ d gc gs pc lo (.double y :: .double x :: st) w Q :=
  XJ.step (fun hx hb hown ht hS ls hl kk => lv_ddiv hx hb hd hne kk) k
theorem X_fcmp {x y : UInt32} {op : CmpOp} (hd : decode μ.2.2.1 pc = .ok (.fcmp op, 1)) (k : XJ G μ d gc gs (pc + 1) lo (.int (Op.cmpValue (FP.fcmp x y) op) :: st) w Q) : XJ G μ d gc gs pc lo (.float y :: .float x :: st) w Q :=
  XJ.step (fun hx hb hown ht hS ls hl kk => lv_fcmp hx hb hd kk) k
theorem X_dcmp {x y : UInt64} {op : CmpOp} (hd : decode μ.2.2.1 pc = .ok (.dcmp op, 1)) (k : XJ G μ d gc gs (pc + 1) lo (.int (Op.cmpValue (FP.dcmp x y) op) :: st) w Q) : XJ G μ d gc gs pc lo (.double y :: .double x :: st) w Q :=
  XJ.step (fun hx hb hown ht hS ls hl kk => lv_dcmp hx hb hd kk) k
theorem X_lcmp {x y : Int64} (hd : decode μ.2.2.1 pc = .ok (.lcmp, 1)) (k : XJ G μ d gc gs (pc + 1) lo (.int (lg_cmp x y) :: st) w Q) : XJ G μ d gc gs pc lo (.long y :: .long x :: st) w Q :=
  XJ.step (fun hx hb hown ht hS ls hl kk => W.lcmp hx hb hd kk) k
theorem X_dup {va : Value} (hd : decode μ.2.2.1 pc = .ok (.dup, 1)) (hva : va.category = 1) (k : XJ G μ d gc gs (pc + 1) lo (va :: va :: st) w Q) : XJ G μ d gc gs pc lo (va :: st) w Q :=
  XJ.step (fun hx hb hown ht hS ls hl kk => lv_dup hx hb hd hva kk) k
theorem X_dup2_11 {va vb : Value} (hd : decode μ.2.2.1 pc = .ok (.dup2, 1)) (hva : va.category = 1) (hvb : vb.category = 1) (k : XJ G μ d gc gs (pc + 1) lo (va :: vb :: va :: vb :: st) w Q) : XJ G μ d gc gs pc lo (va :: vb :: st) w Q :=
  XJ.step (fun hx hb hown ht hS ls hl kk => lv_dup2_11 hx hb hd hva hvb kk) k
theorem X_dup2_2 {va : Value} (hd : decode μ.2.2.1 pc = .ok (.dup2, 1)) (hva : va.category = 2) (k : XJ G μ d gc gs (pc + 1) lo (va :: va :: st) w Q) : XJ G μ d gc gs pc lo (va :: st) w Q :=
  XJ.step (fun hx hb hown ht hS ls hl kk => lv_dup2_2 hx hb hd hva kk) k
theorem X_icmp_eq {x y : Int32} {off : Int} {tgt : Nat} (hd : decode μ.2.2.1 pc = .ok (.if_icmp .eq off, 3)) (ht : (pc : Int) + off = (tgt : Int)) (kt : x = y → XJ G μ d gc gs tgt lo st w Q) (kf : ¬ (x = y) → XJ G μ d gc gs (pc + 3) lo st w Q) : XJ G μ d gc gs pc lo (.int y :: .int x :: st) w Q := by
  intro p e R s m args below meth c hc mc ms H locs cells slots ls h1 h2 h3 h4 hw hS hl
  exact lv_icmp_eq hc.2.1 hc.2.2.1 hd ht (fun h => kt h p e R s m args below meth c hc mc ms H locs cells slots ls h1 h2 h3 h4 hw hS hl) (fun h => kf h p e R s m args below meth c hc mc ms H locs cells slots ls h1 h2 h3 h4 hw hS hl)
theorem X_if_eq {x : Int32} {off : Int} {tgt : Nat} (hd : decode μ.2.2.1 pc = .ok (.ifCond .eq off, 3)) (ht : (pc : Int) + off = (tgt : Int)) (kt : x = 0 → XJ G μ d gc gs tgt lo st w Q) (kf : ¬ (x = 0) → XJ G μ d gc gs (pc + 3) lo st w Q) : XJ G μ d gc gs pc lo (.int x :: st) w Q := by
  intro p e R s m args below meth c hc mc ms H locs cells slots ls h1 h2 h3 h4 hw hS hl
  exact lv_if_eq hc.2.1 hc.2.2.1 hd ht (fun h => kt h p e R s m args below meth c hc mc ms H locs cells slots ls h1 h2 h3 h4 hw hS hl) (fun h => kf h p e R s m args below meth c hc mc ms H locs cells slots ls h1 h2 h3 h4 hw hS hl)
theorem X_icmp_ne {x y : Int32} {off : Int} {tgt : Nat} (hd : decode μ.2.2.1 pc = .ok (.if_icmp .ne off, 3)) (ht : (pc : Int) + off = (tgt : Int)) (kt : x ≠ y → XJ G μ d gc gs tgt lo st w Q) (kf : x = y → XJ G μ d gc gs (pc + 3) lo st w Q) : XJ G μ d gc gs pc lo (.int y :: .int x :: st) w Q := by
  intro p e R s m args below meth c hc mc ms H locs cells slots ls h1 h2 h3 h4 hw hS hl
  exact lv_icmp_ne hc.2.1 hc.2.2.1 hd ht (fun h => kt h p e R s m args below meth c hc mc ms H locs cells slots ls h1 h2 h3 h4 hw hS hl) (fun h => kf h p e R s m args below meth c hc mc ms H locs cells slots ls h1 h2 h3 h4 hw hS hl)
theorem X_if_ne {x : Int32} {off : Int} {tgt : Nat} (hd : decode μ.2.2.1 pc = .ok (.ifCond .ne off, 3)) (ht : (pc : Int) + off = (tgt : Int)) (kt : x ≠ 0 → XJ G μ d gc gs tgt lo st w Q) (kf : x = 0 → XJ G μ d gc gs (pc + 3) lo st w Q) : XJ G μ d gc gs pc lo (.int x :: st) w Q := by
  intro p e R s m args below meth c hc mc ms H locs cells slots ls h1 h2 h3 h4 hw hS hl
  exact lv_if_ne hc.2.1 hc.2.2.1 hd ht (fun h => kt h p e R s m args below meth c hc mc ms H locs cells slots ls h1 h2 h3 h4 hw hS hl) (fun h => kf h p e R s m args below meth c hc mc ms H locs cells slots ls h1 h2 h3 h4 hw hS hl)
theorem X_icmp_lt {x y : Int32} {off : Int} {tgt : Nat} (hd : decode μ.2.2.1 pc = .ok (.if_icmp .lt off, 3)) (ht : (pc : Int) + off = (tgt : Int)) (kt : x < y → XJ G μ d gc gs tgt lo st w Q) (kf : ¬ (x < y) → XJ G μ d gc gs (pc + 3) lo st w Q) : XJ G μ d gc gs pc lo (.int y :: .int x :: st) w Q := by
  intro p e R s m args below meth c hc mc ms H locs cells slots ls h1 h2 h3 h4 hw hS hl
  exact lv_icmp_lt hc.2.1 hc.2.2.1 hd ht (fun h => kt h p e R s m args below meth c hc mc ms H locs cells slots ls h1 h2 h3 h4 hw hS hl) (fun h => kf h p e R s m args below meth c hc mc ms H locs cells slots ls h1 h2 h3 h4 hw hS hl)
theorem X_if_lt {x : Int32} {off : Int} {tgt : Nat} (hd : decode μ.2.2.1 pc = .ok (.ifCond .lt off, 3)) (ht : (pc : Int) + off = (tgt : Int)) (kt : x < 0 → XJ G μ d gc gs tgt lo st w Q) (kf : ¬ (x < 0) → XJ G μ d gc gs (pc + 3) lo st w Q) : XJ G μ d gc gs pc lo (.int x :: st) w Q := by
  intro p e R s m args below meth c hc mc ms H locs cells slots ls h1 h2 h3 h4 hw hS hl
  exact lv_if_lt hc.2.1 hc.2.2.1 hd ht (fun h => kt h p e R s m args below meth c hc mc ms H locs cells slots ls h1 h2 h3 h4 hw hS hl) (fun h => kf h p e R s m args below meth c hc mc ms H locs cells slots ls h1 h2 h3 h4 hw hS hl)
theorem X_icmp_ge {x y : Int32} {off : Int} {tgt : Nat} (hd : decode μ.2.2.1 pc = .ok (.if_icmp .ge off, 3)) (ht : (pc : Int) + off = (tgt : Int)) (kt : y ≤ x → XJ G μ d gc gs tgt lo st w Q) (kf : ¬ (y ≤ x) → XJ G μ d gc gs (pc + 3) lo st w Q) : XJ G μ d gc gs pc lo (.int y :: .int x :: st) w Q := by
  intro p e R s m args below meth c hc mc ms H locs cells slots ls h1 h2 h3 h4 hw hS hl
  exact lv_icmp_ge hc.2.1 hc.2.2.1 hd ht (fun h => kt h p e R s m args below meth c hc mc ms H locs cells slots ls h1 h2 h3 h4 hw hS hl) (fun h => kf h p e R s m args below meth c hc mc ms H locs cells slots ls h1 h2 h3 h4 hw hS hl)
theorem X_if_ge {x : Int32} {off : Int} {tgt : Nat} (hd : decode μ.2.2.1 pc = .ok (.ifCond .ge off, 3)) (ht : (pc : Int) + off = (tgt : Int)) (kt : 0 ≤ x → XJ G μ d gc gs tgt lo st w Q) (kf : ¬ (0 ≤ x) → XJ G μ d gc gs (pc + 3) lo st w Q) : XJ G μ d gc gs pc lo (.int x :: st) w Q := by
  intro p e R s m args below meth c hc mc ms H locs cells slots ls h1 h2 h3 h4 hw hS hl
  exact lv_if_ge hc.2.1 hc.2.2.1 hd ht (fun h => kt h p e R s m args below meth c hc mc ms H locs cells slots ls h1 h2 h3 h4 hw hS hl) (fun h => kf h p e R s m args below meth c hc mc ms H locs cells slots ls h1 h2 h3 h4 hw hS hl)
theorem X_icmp_gt {x y : Int32} {off : Int} {tgt : Nat} (hd : decode μ.2.2.1 pc = .ok (.if_icmp .gt off, 3)) (ht : (pc : Int) + off = (tgt : Int)) (kt : y < x → XJ G μ d gc gs tgt lo st w Q) (kf : ¬ (y < x) → XJ G μ d gc gs (pc + 3) lo st w Q) : XJ G μ d gc gs pc lo (.int y :: .int x :: st) w Q := by
  intro p e R s m args below meth c hc mc ms H locs cells slots ls h1 h2 h3 h4 hw hS hl
  exact lv_icmp_gt hc.2.1 hc.2.2.1 hd ht (fun h => kt h p e R s m args below meth c hc mc ms H locs cells slots ls h1 h2 h3 h4 hw hS hl) (fun h => kf h p e R s m args below meth c hc mc ms H locs cells slots ls h1 h2 h3 h4 hw hS hl)
theorem X_if_gt {x : Int32} {off : Int} {tgt : Nat} (hd : decode μ.2.2.1 pc = .ok (.ifCond .gt off, 3)) (ht : (pc : Int) + off = (tgt : Int)) (kt : 0 < x → XJ G μ d gc gs tgt lo st w Q) (kf : ¬ (0 < x) → XJ G μ d gc gs (pc + 3) lo st w Q) : XJ G μ d gc gs pc lo (.int x :: st) w Q := by
  intro p e R s m args below meth c hc mc ms H locs cells slots ls h1 h2 h3 h4 hw hS hl
  exact lv_if_gt hc.2.1 hc.2.2.1 hd ht (fun h => kt h p e R s m args below meth c hc mc ms H locs cells slots ls h1 h2 h3 h4 hw hS hl) (fun h => kf h p e R s m args below meth c hc mc ms H locs cells slots ls h1 h2 h3 h4 hw hS hl)
theorem X_icmp_le {x y : Int32} {off : Int} {tgt : Nat} (hd : decode μ.2.2.1 pc = .ok (.if_icmp .le off, 3)) (ht : (pc : Int) + off = (tgt : Int)) (kt : x ≤ y → XJ G μ d gc gs tgt lo st w Q) (kf : ¬ (x ≤ y) → XJ G μ d gc gs (pc + 3) lo st w Q) : XJ G μ d gc gs pc lo (.int y :: .int x :: st) w Q := by
  intro p e R s m args below meth c hc mc ms H locs cells slots ls h1 h2 h3 h4 hw hS hl
  exact lv_icmp_le hc.2.1 hc.2.2.1 hd ht (fun h => kt h p e R s m args below meth c hc mc ms H locs cells slots ls h1 h2 h3 h4 hw hS hl) (fun h => kf h p e R s m args below meth c hc mc ms H locs cells slots ls h1 h2 h3 h4 hw hS hl)
theorem X_if_le {x : Int32} {off : Int} {tgt : Nat} (hd : decode μ.2.2.1 pc = .ok (.ifCond .le off, 3)) (ht : (pc : Int) + off = (tgt : Int)) (kt : x ≤ 0 → XJ G μ d gc gs tgt lo st w Q) (kf : ¬ (x ≤ 0) → XJ G μ d gc gs (pc + 3) lo st w Q) : XJ G μ d gc gs pc lo (.int x :: st) w Q := by
  intro p e R s m args below meth c hc mc ms H locs cells slots ls h1 h2 h3 h4 hw hS hl
  exact lv_if_le hc.2.1 hc.2.2.1 hd ht (fun h => kt h p e R s m args below meth c hc mc ms H locs cells slots ls h1 h2 h3 h4 hw hS hl) (fun h => kf h p e R s m args below meth c hc mc ms H locs cells slots ls h1 h2 h3 h4 hw hS hl)
theorem X_goto {off : Int} {tgt : Nat} (hd : decode μ.2.2.1 pc = .ok (.goto off, 3)) (ht : (pc : Int) + off = (tgt : Int)) (k : XJ G μ d gc gs tgt lo st w Q) : XJ G μ d gc gs pc lo st w Q :=
  XJ.step (fun hx hb hown ht2 hS ls hl kk => lv_goto hx hb hd ht kk) k
theorem X_tableIn {dflt lo9 hi : Int} {offs : Array Int} {len : Nat} {x : Int32} {off : Int} {tgt : Nat} (hd : decode μ.2.2.1 pc = .ok (.tableswitch dflt lo9 hi offs, len)) (h1 : ¬ x.toInt < lo9) (h2 : ¬ hi < x.toInt) (ho : offs[(x.toInt - lo9).toNat]? = some off) (ht : (pc : Int) + off = (tgt : Int)) (k : XJ G μ d gc gs tgt lo st w Q) : XJ G μ d gc gs pc lo (.int x :: st) w Q :=
  XJ.step (fun hx hb hown ht2 hS ls hl kk => lv_tableIn hx hb hd h1 h2 ho ht kk) k
theorem X_tableOut {dflt lo9 hi : Int} {offs : Array Int} {len : Nat} {x : Int32} {tgt : Nat} (hd : decode μ.2.2.1 pc = .ok (.tableswitch dflt lo9 hi offs, len)) (h : x.toInt < lo9 ∨ hi < x.toInt) (ht : (pc : Int) + dflt = (tgt : Int)) (k : XJ G μ d gc gs tgt lo st w Q) : XJ G μ d gc gs pc lo (.int x :: st) w Q :=
  XJ.step (fun hx hb hown ht2 hS ls hl kk => lv_tableOut hx hb hd h ht kk) k
end XRows
end
section
/-! HEAP ROWS: fields, rows of numbers, new things, calls, ends, throws, over XJ -/
section XHeap
variable {G : Gx} {μ : Mth} {d gc gs pc : Nat} {lo : List (Nat × Value)} {st : List Value} {w : Wd} {Q : XRes → Wd → Prop}
/-- cell i of the world is e -/
def cel (w : Wd) (i : Nat) (e : va_E) : Prop := i < w.2.1 ∧ w.2.2 i = e
theorem cel.at {w : Wd} {i : Nat} {e : va_E} (h : cel w i e) : (xw w)[i]? = some (w.1 i, e) := by
  rw [xw_at h.1, h.2]
theorem cel.set {w : Wd} {i : Nat} {e e' : va_E} (h : cel w i e) : cel (setM w i e') i e' := ⟨h.1, setM_at⟩
theorem cel.ne {w : Wd} {i j : Nat} {e e' : va_E} (hij : i ≠ j) (h : cel w i e) : cel (setM w j e') i e := ⟨h.1, (setM_ne hij).trans h.2⟩
theorem XJ.stepG {pc2 : Nat} {st2 : List Value}
    (h : ∀ {p : Program} {e : Env} {R : Room} {s : State} {m : MethodId} {args : Array Value} {below : List Frame} {meth : Method} {c : Code} {H : Heap} {locs : List Loc} {cells slots : Nat} {QQ : State → Prop},
      Cx G μ d p R s m args meth c → WG G w H → va_S G.2.2.2.1 s.heap H locs → ∀ ls : Array Slot, W p G.1 e R s m args below meth c H locs cells slots QQ (F0 m pc2 ls st2) → W p G.1 e R s m args below meth c H locs cells slots QQ (F0 m pc ls st))
    (k : XJ G μ d gc gs pc2 lo st2 w Q) : XJ G μ d gc gs pc lo st w Q := by
  intro p e R s m args below meth c hc mc ms H locs cells slots ls h1 h2 h3 h4 hw hS hl
  exact h hc hw hS ls (k p e R s m args below meth c hc mc ms H locs cells slots ls h1 h2 h3 h4 hw hS hl)
theorem XJ.stepM {pc2 : Nat} {st2 : List Value} {w2 : Wd}
    (h : ∀ {p : Program} {e : Env} {R : Room} {s : State} {m : MethodId} {args : Array Value} {below : List Frame} {meth : Method} {c : Code} {H : Heap} {locs : List Loc} {cells slots : Nat} {QQ : State → Prop},
      Cx G μ d p R s m args meth c → WG G w H → va_S G.2.2.2.1 s.heap H locs → ∀ ls : Array Slot, (∀ (H1 : Heap) (locs1 : List Loc), WG G w2 H1 → va_S G.2.2.2.1 s.heap H1 locs1 → W p G.1 e R s m args below meth c H1 locs1 cells slots QQ (F0 m pc2 ls st2)) → W p G.1 e R s m args below meth c H locs cells slots QQ (F0 m pc ls st))
    (k : XJ G μ d gc gs pc2 lo st2 w2 Q) : XJ G μ d gc gs pc lo st w Q := by
  intro p e R s m args below meth c hc mc ms H locs cells slots ls h1 h2 h3 h4 hw hS hl
  exact h hc hw hS ls (fun H1 locs1 hw1 hS1 => k p e R s m args below meth c hc mc ms H1 locs1 cells slots ls h1 h2 h3 h4 hw1 hS1 hl)
/-! ## fields -/
theorem X_get {a i ci k N index : Nat} {C : String} {T : u_T} {fs : List Value} {v : Value} (hM : cel w i (oB ci fs)) (ha : w.1 i = a) (hc : vwCl[ci]? = some (C, T, N)) (hin : ∀ q ∈ u_ws C T N, q ∈ xall) (hk : k < N) (hlink : Cond.fieldLink μ.1 index (T k).1 (T k).2.1 (T k).2.2.1 ∈ xall) (hv : fs[k]? = some v) (hd : decode μ.2.2.1 pc = .ok (.getfield index, 3))
    (kk : XJ G μ d gc gs (pc + 3) lo (v :: st) w Q) : XJ G μ d gc gs pc lo (.ref a :: st) w Q := by
  subst ha
  exact XJ.stepG (fun hx hw hS ls k1 => va_get hx.2.1 hx.2.2.1 hx.2.2.2.2.2.1 hin hx.2.2.2.2.1 hx.1.1 hw.1 i hM.at hc k hk (hx.2.2.2.2.2.1 _ hlink) (fun _ h => h) hv hd k1) kk
theorem X_put {a i ci k N index : Nat} {C : String} {T : u_T} {fs : List Value} {v : Value} (ty0 : Nat → FieldType) (hty : ∀ k, k < N → parseFieldDescriptor (T k).2.2.1 = some (ty0 k)) (hnm : ∀ a, a < N → ∀ b, b < N → a ≠ b → (T a).2.1 ≠ (T b).2.1) (hM : cel w i (oB ci fs)) (ha : w.1 i = a) (hc : vwCl[ci]? = some (C, T, N)) (hin : ∀ q ∈ u_ws C T N, q ∈ xall) (hk : k < N) (hlink : Cond.fieldLink μ.1 index (T k).1 (T k).2.1 (T k).2.2.1 ∈ xall) (hfin : (T k).2.2.2 = false)
    (hn : narrow (ty0 k) v = v) (hfit : fits (ty0 k) v = true) (hl : k < fs.length) (hd : decode μ.2.2.1 pc = .ok (.putfield index, 3))
    (kk : XJ G μ d gc gs (pc + 3) lo st (setM w i (oB ci (fs.set k v))) Q) : XJ G μ d gc gs pc lo (v :: .ref a :: st) w Q := by
  subst ha
  refine XJ.stepM (fun hx hw hS ls k1 => va_put hx.2.1 hx.2.2.1 hx.2.2.2.2.2.1 hin ty0 hty hnm hx.2.2.2.2.1 hx.1.1 hw.1 hw.2 hS i hM.at hc k hk (hx.2.2.2.2.2.1 _ hlink) (fun _ h => h) hfin (hty k hk) hn hfit hl hd (fun H1 locs1 hP hD hS1 => k1 H1 locs1 ?_ hS1)) kk
  have e := xw_set (e := oB ci (fs.set k v)) hM.1
  exact ⟨by rw [← e]; exact hP, by rw [← e]; exact hD⟩
theorem X_putF {a i ci k N index : Nat} {C : String} {T : u_T} {fs : List Value} {v : Value} (ty0 : Nat → FieldType) (hty : ∀ k, k < N → parseFieldDescriptor (T k).2.2.1 = some (ty0 k)) (hnm : ∀ a, a < N → ∀ b, b < N → a ≠ b → (T a).2.1 ≠ (T b).2.1) (hM : cel w i (oB ci fs)) (ha : w.1 i = a) (hc : vwCl[ci]? = some (C, T, N)) (hin : ∀ q ∈ u_ws C T N, q ∈ xall) (hk : k < N) (hlink : Cond.fieldLink μ.1 index (T k).1 (T k).2.1 (T k).2.2.1 ∈ xall) (hfin : (T k).2.2.2 = true) (hini : μ.2.1.name = "<init>") (hdecl : (T k).1 = μ.1)
    (hn : narrow (ty0 k) v = v) (hfit : fits (ty0 k) v = true) (hl : k < fs.length) (hd : decode μ.2.2.1 pc = .ok (.putfield index, 3))
    (kk : XJ G μ d gc gs (pc + 3) lo st (setM w i (oB ci (fs.set k v))) Q) : XJ G μ d gc gs pc lo (v :: .ref a :: st) w Q := by
  subst ha
  refine XJ.stepM (fun hx hw hS ls k1 => va_putF hx.2.1 hx.2.2.1 hx.2.2.2.2.2.1 hin ty0 hty hnm hx.2.2.2.2.1 hx.1.1 hw.1 hw.2 hS i hM.at hc k hk (hx.2.2.2.2.2.1 _ hlink) (fun _ h => h) hfin (hx.2.2.2.2.2.2.2.2.1.trans hini) hdecl (hty k hk) hn hfit hl hd (fun H1 locs1 hP hD hS1 => k1 H1 locs1 ?_ hS1)) kk
  have e := xw_set (e := oB ci (fs.set k v)) hM.1
  exact ⟨by rw [← e]; exact hP, by rw [← e]; exact hD⟩
/-! ## rows of numbers: the index is a number nI j -/
theorem X_alen {a i n t : Nat} {x : vp_A} {ty : FieldType} {v : Int32} (hM : cel w i (.inl (G.2.2.1 t, x))) (ha : w.1 i = a) (ht : (tysK G.2.2.1)[t]? = some (G.2.2.1 t, ty)) (hv : Int32.ofNat x.1 = v) (hd : decode μ.2.2.1 pc = .ok (.arraylength, 1))
    (kk : XJ G μ d gc gs (pc + 1) lo (.int v :: st) w Q) : XJ G μ d gc gs pc lo (.ref a :: st) w Q := by
  subst ha
  exact XJ.stepG (fun hx hw hS ls k1 => va_alen hx.2.1 hx.2.2.1 hx.1.1 hw.1 i t hM.at ht hv hd k1) kk
theorem X_iald {a i n j : Nat} {x : Int32} {f : Nat → Int32} (hM : cel w i (aI G.2.2.1 n f)) (ha : w.1 i = a) (hx0 : x = nI j) (hj : j < n) (hn : n < 2 ^ 31) (hd : decode μ.2.2.1 pc = .ok (.iaload, 1))
    (kk : XJ G μ d gc gs (pc + 1) lo (.int (f j) :: st) w Q) : XJ G μ d gc gs pc lo (.int x :: .ref a :: st) w Q := by
  subst ha
  subst hx0
  refine XJ.stepG (fun hx hw hS ls k1 => va_iald hx.2.1 hx.2.2.1 hx.1.1 hw.1 i 0 hM.at rfl (vp_in_nI hj hn) hd ?_) kk
  rw [nI_clamp (Nat.lt_trans hj hn)]
  exact k1
theorem X_cald {a i n j : Nat} {x : Int32} {f : Nat → Int32} (hM : cel w i (aC G.2.2.1 n f)) (ha : w.1 i = a) (hx0 : x = nI j) (hj : j < n) (hn : n < 2 ^ 31) (hd : decode μ.2.2.1 pc = .ok (.caload, 1))
    (kk : XJ G μ d gc gs (pc + 1) lo (.int (f j) :: st) w Q) : XJ G μ d gc gs pc lo (.int x :: .ref a :: st) w Q := by
  subst ha
  subst hx0
  refine XJ.stepG (fun hx hw hS ls k1 => va_cald hx.2.1 hx.2.2.1 hx.1.1 hw.1 i 1 hM.at rfl (vp_in_nI hj hn) hd ?_) kk
  rw [nI_clamp (Nat.lt_trans hj hn)]
  exact k1
theorem X_zald {a i n j : Nat} {x : Int32} {f : Nat → Int32} (hM : cel w i (aZ G.2.2.1 n f)) (ha : w.1 i = a) (hx0 : x = nI j) (hj : j < n) (hn : n < 2 ^ 31) (hd : decode μ.2.2.1 pc = .ok (.baload, 1))
    (kk : XJ G μ d gc gs (pc + 1) lo (.int (f j) :: st) w Q) : XJ G μ d gc gs pc lo (.int x :: .ref a :: st) w Q := by
  subst ha
  subst hx0
  refine XJ.stepG (fun hx hw hS ls k1 => va_zald hx.2.1 hx.2.2.1 hx.1.1 hw.1 i 2 hM.at rfl (vp_in_nI hj hn) hd ?_) kk
  rw [nI_clamp (Nat.lt_trans hj hn)]
  exact k1
theorem X_lald {a i n j : Nat} {x : Int32} {f : Nat → Int64} (hM : cel w i (aL G.2.2.1 n f)) (ha : w.1 i = a) (hx0 : x = nI j) (hj : j < n) (hn : n < 2 ^ 31) (hd : decode μ.2.2.1 pc = .ok (.laload, 1))
    (kk : XJ G μ d gc gs (pc + 1) lo (.long (f j) :: st) w Q) : XJ G μ d gc gs pc lo (.int x :: .ref a :: st) w Q := by
  subst ha
  subst hx0
  refine XJ.stepG (fun hx hw hS ls k1 => va_lald hx.2.1 hx.2.2.1 hx.1.1 hw.1 i 3 hM.at rfl (vp_in_nI hj hn) hd ?_) kk
  rw [nI_clamp (Nat.lt_trans hj hn)]
  exact k1
theorem X_fald {a i n j : Nat} {x : Int32} {f : Nat → UInt32} (hM : cel w i (aF G.2.2.1 n f)) (ha : w.1 i = a) (hx0 : x = nI j) (hj : j < n) (hn : n < 2 ^ 31) (hd : decode μ.2.2.1 pc = .ok (.faload, 1))
    (kk : XJ G μ d gc gs (pc + 1) lo (.float (f j) :: st) w Q) : XJ G μ d gc gs pc lo (.int x :: .ref a :: st) w Q := by
  subst ha
  subst hx0
  refine XJ.stepG (fun hx hw hS ls k1 => va_fald hx.2.1 hx.2.2.1 hx.1.1 hw.1 i 4 hM.at rfl (vp_in_nI hj hn) hd ?_) kk
  rw [nI_clamp (Nat.lt_trans hj hn)]
  exact k1
theorem X_dald {a i n j : Nat} {x : Int32} {f : Nat → UInt64} (hM : cel w i (aD G.2.2.1 n f)) (ha : w.1 i = a) (hx0 : x = nI j) (hj : j < n) (hn : n < 2 ^ 31) (hd : decode μ.2.2.1 pc = .ok (.daload, 1))
    (kk : XJ G μ d gc gs (pc + 1) lo (.double (f j) :: st) w Q) : XJ G μ d gc gs pc lo (.int x :: .ref a :: st) w Q := by
  subst ha
  subst hx0
  refine XJ.stepG (fun hx hw hS ls k1 => va_dald hx.2.1 hx.2.2.1 hx.1.1 hw.1 i 5 hM.at rfl (vp_in_nI hj hn) hd ?_) kk
  rw [nI_clamp (Nat.lt_trans hj hn)]
  exact k1
theorem X_iast {a i n j : Nat} {x : Int32} {v : Int32} {f : Nat → Int32} (hM : cel w i (aI G.2.2.1 n f)) (ha : w.1 i = a) (hx0 : x = nI j) (hj : j < n) (hn : n < 2 ^ 31) (hd : decode μ.2.2.1 pc = .ok (.iastore, 1))
    (kk : XJ G μ d gc gs (pc + 1) lo st (setM w i (aI G.2.2.1 n (va_up f j (v)))) Q) : XJ G μ d gc gs pc lo (.int v :: .int x :: .ref a :: st) w Q := by
  subst ha
  subst hx0
  refine XJ.stepM (fun hx hw hS ls k1 => va_iast hx.2.1 hx.2.2.1 hx.1.1 hw.1 hw.2 hS i 0 hM.at rfl (vp_in_nI hj hn) hd (fun H1 locs1 hP hD hS1 => k1 H1 locs1 ?_ hS1)) kk
  rw [nI_clamp (Nat.lt_trans hj hn)] at hP hD
  have e := xw_set (e := aI G.2.2.1 n (va_up f j (v))) hM.1
  exact ⟨by rw [← e]; exact hP, by rw [← e]; exact hD⟩
theorem X_cast {a i n j : Nat} {x : Int32} {v : Int32} {f : Nat → Int32} (hM : cel w i (aC G.2.2.1 n f)) (ha : w.1 i = a) (hx0 : x = nI j) (hj : j < n) (hn : n < 2 ^ 31) (hd : decode μ.2.2.1 pc = .ok (.castore, 1))
    (kk : XJ G μ d gc gs (pc + 1) lo st (setM w i (aC G.2.2.1 n (va_up f j (vp_nar .char v)))) Q) : XJ G μ d gc gs pc lo (.int v :: .int x :: .ref a :: st) w Q := by
  subst ha
  subst hx0
  refine XJ.stepM (fun hx hw hS ls k1 => va_cast hx.2.1 hx.2.2.1 hx.1.1 hw.1 hw.2 hS i 1 hM.at rfl (vp_in_nI hj hn) hd (fun H1 locs1 hP hD hS1 => k1 H1 locs1 ?_ hS1)) kk
  rw [nI_clamp (Nat.lt_trans hj hn)] at hP hD
  have e := xw_set (e := aC G.2.2.1 n (va_up f j (vp_nar .char v))) hM.1
  exact ⟨by rw [← e]; exact hP, by rw [← e]; exact hD⟩
theorem X_zast {a i n j : Nat} {x : Int32} {v : Int32} {f : Nat → Int32} (hM : cel w i (aZ G.2.2.1 n f)) (ha : w.1 i = a) (hx0 : x = nI j) (hj : j < n) (hn : n < 2 ^ 31) (hd : decode μ.2.2.1 pc = .ok (.bastore, 1))
    (kk : XJ G μ d gc gs (pc + 1) lo st (setM w i (aZ G.2.2.1 n (va_up f j (vp_nar .boolean v)))) Q) : XJ G μ d gc gs pc lo (.int v :: .int x :: .ref a :: st) w Q := by
  subst ha
  subst hx0
  refine XJ.stepM (fun hx hw hS ls k1 => va_zast hx.2.1 hx.2.2.1 hx.1.1 hw.1 hw.2 hS i 2 hM.at rfl (vp_in_nI hj hn) hd (fun H1 locs1 hP hD hS1 => k1 H1 locs1 ?_ hS1)) kk
  rw [nI_clamp (Nat.lt_trans hj hn)] at hP hD
  have e := xw_set (e := aZ G.2.2.1 n (va_up f j (vp_nar .boolean v))) hM.1
  exact ⟨by rw [← e]; exact hP, by rw [← e]; exact hD⟩
theorem X_last {a i n j : Nat} {x : Int32} {v : Int64} {f : Nat → Int64} (hM : cel w i (aL G.2.2.1 n f)) (ha : w.1 i = a) (hx0 : x = nI j) (hj : j < n) (hn : n < 2 ^ 31) (hd : decode μ.2.2.1 pc = .ok (.lastore, 1))
    (kk : XJ G μ d gc gs (pc + 1) lo st (setM w i (aL G.2.2.1 n (va_up f j (v)))) Q) : XJ G μ d gc gs pc lo (.long v :: .int x :: .ref a :: st) w Q := by
  subst ha
  subst hx0
  refine XJ.stepM (fun hx hw hS ls k1 => va_last hx.2.1 hx.2.2.1 hx.1.1 hw.1 hw.2 hS i 3 hM.at rfl (vp_in_nI hj hn) hd (fun H1 locs1 hP hD hS1 => k1 H1 locs1 ?_ hS1)) kk
  rw [nI_clamp (Nat.lt_trans hj hn)] at hP hD
  have e := xw_set (e := aL G.2.2.1 n (va_up f j (v))) hM.1
  exact ⟨by rw [← e]; exact hP, by rw [← e]; exact hD⟩
theorem X_fast {a i n j : Nat} {x : Int32} {v : UInt32} {f : Nat → UInt32} (hM : cel w i (aF G.2.2.1 n f)) (ha : w.1 i = a) (hx0 : x = nI j) (hj : j < n) (hn : n < 2 ^ 31) (hd : decode μ.2.2.1 pc = .ok (.fastore, 1))
    (kk : XJ G μ d gc gs (pc + 1) lo st (setM w i (aF G.2.2.1 n (va_up f j (v)))) Q) : XJ G μ d gc gs pc lo (.float v :: .int x :: .ref a :: st) w Q := by
  subst ha
  subst hx0
  refine XJ.stepM (fun hx hw hS ls k1 => va_fast hx.2.1 hx.2.2.1 hx.1.1 hw.1 hw.2 hS i 4 hM.at rfl (vp_in_nI hj hn) hd (fun H1 locs1 hP hD hS1 => k1 H1 locs1 ?_ hS1)) kk
  rw [nI_clamp (Nat.lt_trans hj hn)] at hP hD
  have e := xw_set (e := aF G.2.2.1 n (va_up f j (v))) hM.1
  exact ⟨by rw [← e]; exact hP, by rw [← e]; exact hD⟩
theorem X_dast {a i n j : Nat} {x : Int32} {v : UInt64} {f : Nat → UInt64} (hM : cel w i (aD G.2.2.1 n f)) (ha : w.1 i = a) (hx0 : x = nI j) (hj : j < n) (hn : n < 2 ^ 31) (hd : decode μ.2.2.1 pc = .ok (.dastore, 1))
    (kk : XJ G μ d gc gs (pc + 1) lo st (setM w i (aD G.2.2.1 n (va_up f j (v)))) Q) : XJ G μ d gc gs pc lo (.double v :: .int x :: .ref a :: st) w Q := by
  subst ha
  subst hx0
  refine XJ.stepM (fun hx hw hS ls k1 => va_dast hx.2.1 hx.2.2.1 hx.1.1 hw.1 hw.2 hS i 5 hM.at rfl (vp_in_nI hj hn) hd (fun H1 locs1 hP hD hS1 => k1 H1 locs1 ?_ hS1)) kk
  rw [nI_clamp (Nat.lt_trans hj hn)] at hP hD
  have e := xw_set (e := aD G.2.2.1 n (va_up f j (v))) hM.1
  exact ⟨by rw [← e]; exact hP, by rw [← e]; exact hD⟩
end XHeap
end
section
/-! CALLS, ENDS, THROWS, NEW THINGS over XJ -/
section XCalls
variable {G : Gx} {μ : Mth} {d gc gs pc : Nat} {lo : List (Nat × Value)} {st : List Value} {w : Wd} {Q : XRes → Wd → Prop}
/-! ## ends -/
theorem X_qj {s t : State} {args : Array Value} {H : Heap} {locs : List Loc} {v : Option Value} (hQ : Q (.inl v) w) (hw : WG G w H) (hS : va_S G.2.2.2.1 s.heap H locs) (ht : t.heap = H) : QJ G Q args s (.returned v) t := by
  subst ht
  exact ⟨⟨v, w, rfl, hQ, hw⟩, hS.F rfl⟩
theorem X_vreturn (hd : decode μ.2.2.1 pc = .ok (.return_, 1)) (hr : μ.2.2.2.2.1 = none) (hQ : Q (.inl none) w) : XJ G μ d gc gs pc lo [] w Q := by
  intro p e R s m args below meth c hc mc ms H locs cells slots ls h1 h2 h3 h4 hw hS hl
  refine W.widen (k := mc) (n := ms) (by omega) (by omega) (vx_ret ?_)
  exact W.vret hc.2.1 hc.2.2.1 (hc.2.2.2.2.2.2.1.trans hr) (fun t ht _ => X_qj hQ hw hS ht) hS.2.2 hd hc.2.2.2.2.2.2.2.1
theorem X_ireturn {ty : FieldType} {v : Int32} (hd : decode μ.2.2.1 pc = .ok (.ireturn, 1)) (hr : μ.2.2.2.2.1 = some ty) (hn : narrow ty (.int v) = .int v) (hQ : Q (.inl (some (.int v))) w) : XJ G μ d gc gs pc lo [.int v] w Q := by
  intro p e R s m args below meth c hc mc ms H locs cells slots ls h1 h2 h3 h4 hw hS hl
  refine W.widen (k := mc) (n := ms) (by omega) (by omega) (vx_ret ?_)
  exact W.zret hc.2.1 hc.2.2.1 (hc.2.2.2.2.2.2.1.trans hr) hn (fun t ht _ => X_qj hQ hw hS ht) hS.2.2 hd hc.2.2.2.2.2.2.2.1
theorem X_lreturn {v : Int64} (hd : decode μ.2.2.1 pc = .ok (.lreturn, 1)) (hr : μ.2.2.2.2.1 = some .long) (hQ : Q (.inl (some (.long v))) w) : XJ G μ d gc gs pc lo [.long v] w Q := by
  intro p e R s m args below meth c hc mc ms H locs cells slots ls h1 h2 h3 h4 hw hS hl
  refine W.widen (k := mc) (n := ms) (by omega) (by omega) (vx_ret ?_)
  exact W.lret hc.2.1 hc.2.2.1 (hc.2.2.2.2.2.2.1.trans hr) (fun t ht _ => X_qj hQ hw hS ht) hS.2.2 hd hc.2.2.2.2.2.2.2.1
theorem X_freturn {v : UInt32} (hd : decode μ.2.2.1 pc = .ok (.freturn, 1)) (hr : μ.2.2.2.2.1 = some .float) (hQ : Q (.inl (some (.float v))) w) : XJ G μ d gc gs pc lo [.float v] w Q := by
  intro p e R s m args below meth c hc mc ms H locs cells slots ls h1 h2 h3 h4 hw hS hl
  refine W.widen (k := mc) (n := ms) (by omega) (by omega) (vx_ret ?_)
  exact W.fret hc.2.1 hc.2.2.1 (hc.2.2.2.2.2.2.1.trans hr) (fun t ht _ => X_qj hQ hw hS ht) hS.2.2 hd hc.2.2.2.2.2.2.2.1
theorem X_dreturn {v : UInt64} (hd : decode μ.2.2.1 pc = .ok (.dreturn, 1)) (hr : μ.2.2.2.2.1 = some .double) (hQ : Q (.inl (some (.double v))) w) : XJ G μ d gc gs pc lo [.double v] w Q := by
  intro p e R s m args below meth c hc mc ms H locs cells slots ls h1 h2 h3 h4 hw hS hl
  refine W.widen (k := mc) (n := ms) (by omega) (by omega) (vx_ret ?_)
  exact W.dret hc.2.1 hc.2.2.1 (hc.2.2.2.2.2.2.1.trans hr) (fun t ht _ => X_qj hQ hw hS ht) hS.2.2 hd hc.2.2.2.2.2.2.2.1
/-! ## exceptions -/
/-- it leaves the method -/
theorem XT.out {E : String} (hh : μ.2.2.2.2.2 = []) (hQ : Q (.inr E) w) : XT G μ d gc gs pc lo w Q E := by
  intro p e R s m args below meth c hc mc ms H locs cells slots ls h1 h2 h3 h4 hw hS hl q ce rest hq hv hcl
  refine vx_out (fun x hx => ?_) hc.2.2.2.2.2.2.2.1 hq hv hcl (fun t ht hA => ?_) hS.2.2 (by omega) (by omega)
  · rw [hc.2.2.2.2.2.2.2.2.2.2.2, hh] at hx
    cases hx
  · subst ht
    exact ⟨⟨w, hQ, hw⟩, hS.F rfl⟩
/-- it is caught by row x of the table, the rows ahead let it pass; the local lx is the exception's own -/
theorem XT.catch {E name : String} (pre : List (Nat × Nat × Nat × Nat)) (x : Nat × Nat × Nat × Nat) (suf : List (Nat × Nat × Nat × Nat)) (hsplit : μ.2.2.2.2.2 = pre ++ x :: suf)
    (hpass : ∀ z ∈ pre, z.2.2.2 ≠ 0 ∧ ∃ nm : String, Cond.classLink μ.1 z.2.2.2 nm ∈ xall ∧ (E, nm) ∈ xncs) (hx : x.1 ≤ pc ∧ pc < x.2.1) (h0 : x.2.2.2 ≠ 0)
    (hlink : Cond.classLink μ.1 x.2.2.2 name ∈ xall) (hcast : Cond.castable E name ∈ xall)
    (k : ∀ q : Nat, XJ G μ d gc gs x.2.2.1 lo [.ref q] w Q) : XT G μ d gc gs pc lo w Q E := by
  intro p e R s m args below meth c hc mc ms H locs cells slots ls h1 h2 h3 h4 hw hS hl q ce rest hq hv hcl
  refine vx_catch (own := μ.1) (name := name) (E := E) hc.2.2.2.2.1 (tableOf pre) ⟨x.1, x.2.1, x.2.2.1, x.2.2.2⟩ (tableOf suf) ?_ ?_ ?_ h0 (hc.2.2.2.2.2.1 _ hlink) (hc.2.2.2.2.2.1 _ hcast) hq hv hcl ?_
  · rw [hc.2.2.2.2.2.2.2.2.2.2.2, hsplit]
    simp [tableOf]
  · intro z hz
    obtain ⟨y, hy, rfl⟩ := List.mem_map.mp hz
    obtain ⟨e1, nm, e2, e3⟩ := hpass y hy
    exact Or.inr ⟨e1, nm, hc.2.2.2.2.2.1 _ e2, hc.1.2.2.2.2.2.1 _ e3⟩
  · simp [covers, hx.1, hx.2]
  · exact k q p e R s m args below meth c hc mc ms H locs cells slots ls h1 h2 h3 h4 hw hS hl
/-! ## calls -/
/-- what a callee's tables' words say of it -/
def KM (μ : Mth) (n : Nat) : Prop := xword μ ∈ xall ∧ Cond.initialized μ.2.1.cls ∈ xall ∧ (μ.2.1.cls ≠ "java/lang/invoke/MethodHandle" ∧ μ.2.1.cls ≠ "java/lang/invoke/VarHandle") ∧ (parseMethodDescriptor μ.2.1.desc).map (fun d => d.parameters.length) = some n ∧ plainFor μ.2.1 = true ∧ μ.1 = μ.2.1.cls ∧ μ.2.2.2.1 ≤ 45
theorem KM.words {μ' : Mth} {n : Nat} (h : KM μ' n) {s : State} {args : Array Value} (ht : ∀ w ∈ xall, w.before args s = true) : ∀ w ∈ xws μ', ∀ (a' : Array Value) (U : State), s.WarmedH U.vm → w.before a' U = true := by
  intro w hw a' U hW
  have e := List.mem_singleton.mp hw
  subst e
  exact xgood_warm hW _ (List.mem_filter.mp h.1).2 (ht _ h.1)
theorem KM.pars {μ' : Mth} {n : Nat} (h : KM μ' n) : ∀ sig, parseMethodDescriptor μ'.2.1.desc = some sig → n = sig.parameters.length := by
  intro sig hs
  have e := h.2.2.2.1
  rw [hs] at e
  simpa using e.symm
theorem PC_blind {av : List Value} : FrameBlind (va_Pc av (fun U => SG G U ∧ WG G w U.heap)) := by
  intro a U g mk ⟨e, h1, h2⟩
  exact ⟨e, SG.blind h1, h2⟩
theorem PC_at {s U : State} {H : Heap} {locs : List Loc} {av : List Value} (hG : SG G s) (hw : WG G w H) (hS : va_S G.2.2.2.1 s.heap H locs) (hU : U.heap = H) (hW : s.WarmedH U.vm) : va_Pc av (fun U => SG G U ∧ WG G w U.heap) av.toArray U := by
  subst hU
  exact ⟨rfl, SG.moved hG hW hS, hw⟩
theorem XJ.call {av rest : List Value} {d' gc' gs' gc2 gs2 : Nat} {Q1 : XRes → Wd → Prop}
    (hrun : ∀ {p : Program} {e : Env} {R : Room} {s : State} {m : MethodId} {args : Array Value} {below : List Frame} {meth : Method} {c : Code} {H : Heap} {locs : List Loc} {cells slots : Nat} {ls : Array Slot},
      Cx G μ d p R s m args meth c → WG G w H → va_S G.2.2.2.1 s.heap H locs → ls.size = μ.2.2.2.1 → cells + gc' ≤ R.cells ∧ slots + gs' ≤ R.slots → vx_Run p G.1 e R s m args below meth c H locs cells slots gc' gs' (F0 m pc ls st) rest (QJ G Q1 av.toArray) (XQ G Q1) G.2.2.2.1)
    (h1 : gc' + gc2 ≤ gc) (h2 : gs' + gs2 ≤ gs)
    (kx : ∀ (E : String) (w1 : Wd), Q1 (.inr E) w1 → XT G μ d gc2 gs2 pc lo w1 Q E)
    (kk : ∀ (v : Option Value) (w1 : Wd), Q1 (.inl v) w1 → XJ G μ d gc2 gs2 (pc + 3) lo (v.toList ++ rest) w1 Q) : XJ G μ d gc gs pc lo st w Q := by
  intro p e R s m args below meth c hc mc ms H locs cells slots ls a1 a2 a3 a4 hw hS hl T hT X
  rcases hrun hc hw hS hl.1 ⟨by omega, by omega⟩ T hT X with ⟨v, st₀, t, T', L, h0, X', hL, e1, e2, ⟨⟨v', w1, hv, hq, hw1⟩, hF⟩, go⟩ | ⟨q, st₀, t, T', L, E, ce, h0, X', hL, e1, e2, ⟨⟨w1, hq, hw1⟩, hF⟩, hce, hcv, hcl, go⟩
  · cases hv
    obtain ⟨k1, k2, k3⟩ := vx_keep h0 e1 hS (fun _ _ h => h) (fun _ h => h) hL hF
    obtain ⟨t2, b1, b2⟩ := kk v w1 hq p e R s m args below meth c hc mc ms T'.heap (locs ++ L) (cells + gc') (slots + gs') ls (by omega) (by omega) a3 a4 (by rw [e1]; exact hw1) k3 hl T' rfl X'
    exact ⟨t2, go t2 b1, b2⟩
  · obtain ⟨k1, k2, k3⟩ := vx_keep h0 e1 hS (fun _ _ h => h) (fun _ h => h) hL hF
    obtain ⟨t2, b1, b2⟩ := kx E w1 hq p e R s m args below meth c hc mc ms T'.heap (locs ++ L) (cells + gc') (slots + gs') ls (by omega) (by omega) a3 a4 (by rw [e1]; exact hw1) k3 hl q ce rest (by rw [e1]; exact hce) hcv hcl T' rfl X'
    exact ⟨t2, go.trans b1, b2⟩
/-- a static method of the own class -/
theorem X_callS {μ' : Mth} {n index : Nat} {av rest : List Value} {d' gc' gs' gc2 gs2 : Nat} {Q1 : XRes → Wd → Prop} (hC : XC G μ' d' gc' gs' av w Q1) (hk : KM μ' n) (hh : μ'.2.2.2.2.2 = []) (hlink : Cond.methodLink μ.1 index μ'.2.1 ∈ xall) (hstat : Cond.static μ'.2.1 ∈ xall) (hn : av.length = n) (hst : st = av.reverse ++ rest) (hr : (rest.map fun v => v.category).sum ≤ 8) (hdd : d' + 1 ≤ d) (hd : decode μ.2.2.1 pc = .ok (.invokestatic index, 3))
    (h1 : gc' + gc2 ≤ gc) (h2 : gs' + gs2 ≤ gs)
    (kx : ∀ (E : String) (w1 : Wd), Q1 (.inr E) w1 → XT G μ d gc2 gs2 pc lo w1 Q E)
    (kk : ∀ (v : Option Value) (w1 : Wd), Q1 (.inl v) w1 → XJ G μ d gc2 gs2 (pc + 3) lo (v.toList ++ rest) w1 Q) : XJ G μ d gc gs pc lo st w Q := by
  have hcw : xword μ' = Cond.code μ'.2.1 μ'.2.2.1 μ'.2.2.2.1 μ'.2.2.2.2.1 := by unfold xword; rw [hh]
  refine XJ.call (av := av) (d' := d') (gc' := gc') (gs' := gs') (gc2 := gc2) (gs2 := gs2) (Q1 := Q1) (rest := rest) ?_ h1 h2 kx kk
  intro p e R s m args below meth c H locs cells slots ls hc hw hS hsz hf
  have ht := hc.2.2.2.2.2.1
  have hfr := hc.2.2.2.2.2.2.2.2.2.1
  have hlc := hc.2.2.2.2.2.2.2.2.2.2.1
  have hml := hk.2.2.2.2.2.2
  exact vx_runS (Ts := xall) ⟨hc.2.1, hc.2.2.1, hc.2.2.2.1, hc.2.2.2.2.1, ht⟩ hC ⟨⟨rfl, rfl, by show d' + 1 ≤ R.frames; omega, by show 8 + (μ'.2.2.2.1 + 11) + 64 * d' ≤ R.locals; omega, hk.words ht, by rw [xws, hcw]; exact List.mem_singleton.mpr rfl, by rw [← hcw]; exact ht _ hk.1, ht _ hk.2.1, hk.2.2.1, hk.pars, ht _ hlink⟩, ht _ hstat⟩ ⟨PC_blind, fun U hU hW => PC_at hc.1 hw hS hU hW⟩ rfl hn hsz hst (lv_room hr) hd hf
/-- a private static method of a nest mate -/
theorem X_callSN {μ' : Mth} {n index : Nat} {host : String} {av rest : List Value} {d' gc' gs' gc2 gs2 : Nat} {Q1 : XRes → Wd → Prop} (hC : XC G μ' d' gc' gs' av w Q1) (hk : KM μ' n) (hh : μ'.2.2.2.2.2 = []) (hlink : Cond.methodLinkNest μ.1 index μ'.2.1 host ∈ xall) (hstat : Cond.static μ'.2.1 ∈ xall) (hn : av.length = n) (hst : st = av.reverse ++ rest) (hr : (rest.map fun v => v.category).sum ≤ 8) (hdd : d' + 1 ≤ d) (hd : decode μ.2.2.1 pc = .ok (.invokestatic index, 3))
    (h1 : gc' + gc2 ≤ gc) (h2 : gs' + gs2 ≤ gs)
    (kx : ∀ (E : String) (w1 : Wd), Q1 (.inr E) w1 → XT G μ d gc2 gs2 pc lo w1 Q E)
    (kk : ∀ (v : Option Value) (w1 : Wd), Q1 (.inl v) w1 → XJ G μ d gc2 gs2 (pc + 3) lo (v.toList ++ rest) w1 Q) : XJ G μ d gc gs pc lo st w Q := by
  have hcw : xword μ' = Cond.code μ'.2.1 μ'.2.2.1 μ'.2.2.2.1 μ'.2.2.2.2.1 := by unfold xword; rw [hh]
  refine XJ.call (av := av) (d' := d') (gc' := gc') (gs' := gs') (gc2 := gc2) (gs2 := gs2) (Q1 := Q1) (rest := rest) ?_ h1 h2 kx kk
  intro p e R s m args below meth c H locs cells slots ls hc hw hS hsz hf
  have ht := hc.2.2.2.2.2.1
  have hfr := hc.2.2.2.2.2.2.2.2.2.1
  have hlc := hc.2.2.2.2.2.2.2.2.2.2.1
  have hml := hk.2.2.2.2.2.2
  exact vx_runSN (Ts := xall) (host := host) ⟨hc.2.1, hc.2.2.1, hc.2.2.2.1, hc.2.2.2.2.1, ht⟩ hC ⟨⟨⟨rfl, rfl, by show d' + 1 ≤ R.frames; omega, by show 8 + (μ'.2.2.2.1 + 11) + 64 * d' ≤ R.locals; omega, hk.words ht, by rw [xws, hcw]; exact List.mem_singleton.mpr rfl⟩, by rw [← hcw]; exact ht _ hk.1, ht _ hk.2.1, hk.2.2.1, hk.pars, ht _ hlink⟩, ht _ hstat, trivial⟩ ⟨PC_blind, fun U hU hW => PC_at hc.1 hw hS hU hW⟩ rfl hn hsz hst (lv_room hr) hd hf
/-- an instance method by the receiver -/
theorem X_callV {μ' : Mth} {n index i ci N b : Nat} {T : u_T} {fs : List Value} {As rest : List Value} {d' gc' gs' gc2 gs2 : Nat} {Q1 : XRes → Wd → Prop} (hC : XC G μ' d' gc' gs' (.ref b :: As) w Q1) (hM : cel w i (oB ci fs)) (hb : w.1 i = b) (hcl : vwCl[ci]? = some (μ'.1, T, N)) (hk : KM μ' n) (hh : μ'.2.2.2.2.2 = []) (hlink : Cond.methodLink μ.1 index μ'.2.1 ∈ xall) (hinst : Cond.instanceMethod μ'.2.1 ∈ xall) (hsel : Cond.selects μ'.2.1.cls μ'.2.1 μ'.2.1 ∈ xall) (hn : As.length = n) (hst : st = As.reverse ++ .ref b :: rest) (hr : (rest.map fun v => v.category).sum ≤ 8) (hdd : d' + 1 ≤ d) (hd : decode μ.2.2.1 pc = .ok (.invokevirtual index, 3))
    (h1 : gc' + gc2 ≤ gc) (h2 : gs' + gs2 ≤ gs)
    (kx : ∀ (E : String) (w1 : Wd), Q1 (.inr E) w1 → XT G μ d gc2 gs2 pc lo w1 Q E)
    (kk : ∀ (v : Option Value) (w1 : Wd), Q1 (.inl v) w1 → XJ G μ d gc2 gs2 (pc + 3) lo (v.toList ++ rest) w1 Q) : XJ G μ d gc gs pc lo st w Q := by
  subst hb
  have hcw : xword μ' = Cond.code μ'.2.1 μ'.2.2.1 μ'.2.2.2.1 μ'.2.2.2.2.1 := by unfold xword; rw [hh]
  refine XJ.call (av := .ref (w.1 i) :: As) (d' := d') (gc' := gc') (gs' := gs') (gc2 := gc2) (gs2 := gs2) (Q1 := Q1) (rest := rest) ?_ h1 h2 kx kk
  intro p e R s m args below meth c H locs cells slots ls hc hw hS hsz hf
  have ht := hc.2.2.2.2.2.1
  have hfr := hc.2.2.2.2.2.2.2.2.2.1
  have hlc := hc.2.2.2.2.2.2.2.2.2.2.1
  have hml := hk.2.2.2.2.2.2
  exact vx_runV (Ts := xall) (C := μ'.2.1.cls) ⟨hc.2.1, hc.2.2.1, hc.2.2.2.1, hc.2.2.2.2.1, ht⟩ hC ⟨⟨rfl, rfl, by show d' + 1 ≤ R.frames; omega, by show 8 + (μ'.2.2.2.1 + 11) + 64 * d' ≤ R.locals; omega, hk.words ht, by rw [xws, hcw]; exact List.mem_singleton.mpr rfl, by rw [← hcw]; exact ht _ hk.1, ht _ hk.2.1, hk.2.2.1, hk.pars, ht _ hlink⟩, ht _ hinst, ht _ hsel⟩ ⟨PC_blind, by rw [← hk.2.2.2.2.2.1]; exact va_recv hc.1.1 hw.1 hcl hM.at, fun U hU hW => PC_at hc.1 hw hS hU hW⟩ rfl hn hsz hst (lv_room hr) hd hf
/-- a constructor -/
theorem X_callI {μ' : Mth} {n index b : Nat} {As rest : List Value} {d' gc' gs' gc2 gs2 : Nat} {Q1 : XRes → Wd → Prop} (hC : XC G μ' d' gc' gs' (.ref b :: As) w Q1) (hk : KM μ' n) (hh : μ'.2.2.2.2.2 = []) (hrt : μ'.2.2.2.2.1 = none) (hni : μ'.2.1.name = "<init>") (hlink : Cond.methodLink μ.1 index μ'.2.1 ∈ xall) (hinst : Cond.instanceMethod μ'.2.1 ∈ xall) (hn : As.length = n) (hst : st = As.reverse ++ .ref b :: rest) (hr : (rest.map fun v => v.category).sum ≤ 8) (hdd : d' + 1 ≤ d) (hd : decode μ.2.2.1 pc = .ok (.invokespecial index, 3))
    (h1 : gc' + gc2 ≤ gc) (h2 : gs' + gs2 ≤ gs)
    (kx : ∀ (E : String) (w1 : Wd), Q1 (.inr E) w1 → XT G μ d gc2 gs2 pc lo w1 Q E)
    (kk : ∀ (v : Option Value) (w1 : Wd), Q1 (.inl v) w1 → XJ G μ d gc2 gs2 (pc + 3) lo (v.toList ++ rest) w1 Q) : XJ G μ d gc gs pc lo st w Q := by
  have hcw : xword μ' = Cond.code μ'.2.1 μ'.2.2.1 μ'.2.2.2.1 none := by unfold xword; rw [hh, hrt]
  refine XJ.call (av := .ref b :: As) (d' := d') (gc' := gc') (gs' := gs') (gc2 := gc2) (gs2 := gs2) (Q1 := Q1) (rest := rest) ?_ h1 h2 kx kk
  intro p e R s m args below meth c H locs cells slots ls hc hw hS hsz hf
  have ht := hc.2.2.2.2.2.1
  have hfr := hc.2.2.2.2.2.2.2.2.2.1
  have hlc := hc.2.2.2.2.2.2.2.2.2.2.1
  have hml := hk.2.2.2.2.2.2
  exact vx_runI (Ts := xall) ⟨hc.2.1, hc.2.2.1, hc.2.2.2.1, hc.2.2.2.2.1, ht⟩ hC ⟨⟨rfl, rfl, by show d' + 1 ≤ R.frames; omega, by show 8 + (μ'.2.2.2.1 + 11) + 64 * d' ≤ R.locals; omega, hk.words ht, by rw [xws, hcw]; exact List.mem_singleton.mpr rfl, by rw [← hcw]; exact ht _ hk.1, ht _ hk.2.1, hk.2.2.1, hk.pars, ht _ hlink⟩, hni, ht _ hinst⟩ ⟨PC_blind, fun U hU hW => PC_at hc.1 hw hS hU hW⟩ rfl hn hsz hst (lv_room hr) hd hf
/-- a private constructor of a nest mate -/
theorem X_callIN {μ' : Mth} {n index b : Nat} {host : String} {As rest : List Value} {d' gc' gs' gc2 gs2 : Nat} {Q1 : XRes → Wd → Prop} (hC : XC G μ' d' gc' gs' (.ref b :: As) w Q1) (hk : KM μ' n) (hh : μ'.2.2.2.2.2 = []) (hrt : μ'.2.2.2.2.1 = none) (hni : μ'.2.1.name = "<init>") (hlink : Cond.methodLinkNest μ.1 index μ'.2.1 host ∈ xall) (hinst : Cond.instanceMethod μ'.2.1 ∈ xall) (hn : As.length = n) (hst : st = As.reverse ++ .ref b :: rest) (hr : (rest.map fun v => v.category).sum ≤ 8) (hdd : d' + 1 ≤ d) (hd : decode μ.2.2.1 pc = .ok (.invokespecial index, 3))
    (h1 : gc' + gc2 ≤ gc) (h2 : gs' + gs2 ≤ gs)
    (kx : ∀ (E : String) (w1 : Wd), Q1 (.inr E) w1 → XT G μ d gc2 gs2 pc lo w1 Q E)
    (kk : ∀ (v : Option Value) (w1 : Wd), Q1 (.inl v) w1 → XJ G μ d gc2 gs2 (pc + 3) lo (v.toList ++ rest) w1 Q) : XJ G μ d gc gs pc lo st w Q := by
  have hcw : xword μ' = Cond.code μ'.2.1 μ'.2.2.1 μ'.2.2.2.1 none := by unfold xword; rw [hh, hrt]
  refine XJ.call (av := .ref b :: As) (d' := d') (gc' := gc') (gs' := gs') (gc2 := gc2) (gs2 := gs2) (Q1 := Q1) (rest := rest) ?_ h1 h2 kx kk
  intro p e R s m args below meth c H locs cells slots ls hc hw hS hsz hf
  have ht := hc.2.2.2.2.2.1
  have hfr := hc.2.2.2.2.2.2.2.2.2.1
  have hlc := hc.2.2.2.2.2.2.2.2.2.2.1
  have hml := hk.2.2.2.2.2.2
  exact vx_runIN (Ts := xall) (host := host) ⟨hc.2.1, hc.2.2.1, hc.2.2.2.1, hc.2.2.2.2.1, ht⟩ hC ⟨⟨⟨rfl, rfl, by show d' + 1 ≤ R.frames; omega, by show 8 + (μ'.2.2.2.1 + 11) + 64 * d' ≤ R.locals; omega, hk.words ht, by rw [xws, hcw]; exact List.mem_singleton.mpr rfl⟩, by rw [← hcw]; exact ht _ hk.1, ht _ hk.2.1, hk.2.2.1, hk.pars, ht _ hlink⟩, hni, ht _ hinst⟩ ⟨PC_blind, fun U hU hW => PC_at hc.1 hw hS hU hW⟩ rfl hn hsz hst (lv_room hr) hd hf
/-! ## a contract out of a walk -/
/-- a contract by the body's walk, for a class among whose methods some are run by entries, this one not (vx_ofW, vx_ofWH of the kit with plainFor) -/
theorem XC_ofW {y : MethodName} {cw : Cond} {rm : Room} {Pc : Array Value → State → Prop} {Qc : Array Value → State → Outcome → State → Prop} {XX : String → State → State → Prop} {mc ms : Nat} {free : Addr → Prop} {cc : ByteArray} {maxL : Nat} {ret : Option FieldType} {hh : List (Nat × Nat × Nat × Nat)} {l : Launch}
    (hy : plainFor y = true) (hw : (hh = [] ∧ cw = Cond.code y cc maxL ret) ∨ cw = Cond.codeWith y cc maxL ret hh)
    (body : ∀ p e s m args below meth c s₁, BodyLoose p l y (headSpec [cw] rm) cc maxL ret e s m args below meth c s₁ → c.maxLocals = maxL → c.exceptionTable.toList = tableOf hh → Pc args s →
      W p l e (headSpec [cw] rm).room s m args below meth c s.heap [] 0 0 (vx_MQ below Qc XX args s mc ms free) (entryFrame m args maxL)) : vx_Met l y [cw] rm Pc Qc XX mc ms free := by
  refine MetFree.of_bodySF (code := cc) (maxLocals := maxL) (ret := ret) hy ?_ ?_
  · intro args s m h hn
    have hcw := atoms_spec (ws := [cw]) h _ List.mem_cons_self
    rcases hw with ⟨-, rfl⟩ | rfl
    · obtain ⟨meth, c, h1, h2, h3, h4, h5, h6, -, -⟩ := Cond.code_spec hn hcw
      exact ⟨meth, c, h1, h2, h3, h4, h5, h6⟩
    · obtain ⟨m9, meth, c, hn9, h1, h2, h3, h4, -, h5, h6, -⟩ := Cond.codeWith_spec hcw
      cases hn.symm.trans hn9
      exact ⟨meth, c, h1, h2, h3, h4, h5, h6⟩
  · intro p e s m args below meth c s₁ B hml hP _
    have hcw := atoms_spec (ws := [cw]) B.pre _ List.mem_cons_self
    have hh0 : s₁.heap = s.heap := by rw [B.state]; rfl
    have ht : c.exceptionTable.toList = tableOf hh := by
      rcases hw with ⟨rfl, rfl⟩ | rfl
      · obtain ⟨meth9, c9, h1, h2, -, -, -, -, h7, -⟩ := Cond.code_spec B.named hcw
        cases Option.some.inj (h1.symm.trans B.method)
        cases Option.some.inj (h2.symm.trans (Stand.of_body B).code)
        rw [Array.isEmpty_iff.mp h7]
        rfl
      · exact vx_table (x := y) B hcw
    obtain ⟨t, a1, o, b1, b2, b3⟩ := body p e s m args below meth c s₁ B hml ht hP s₁ hh0 (Stand.of_body B)
    exact ⟨t, o, a1, b1, b2, b3⟩
theorem XC.of {n : Nat} {av : List Value} {lo0 : List (Nat × Value)} (hk : KM μ n) (hlen : (lg_sl av).length ≤ μ.2.2.2.1) (hlo : lv_args 0 av = lo0) (k : XJ G μ d gc gs 0 lo0 [] w Q) : XC G μ d gc gs av w Q := by
  have hcw : (μ.2.2.2.2.2 = [] ∧ xword μ = Cond.code μ.2.1 μ.2.2.1 μ.2.2.2.1 μ.2.2.2.2.1) ∨ xword μ = Cond.codeWith μ.2.1 μ.2.2.1 μ.2.2.2.1 μ.2.2.2.2.1 μ.2.2.2.2.2 := by
    unfold xword
    cases h : μ.2.2.2.2.2 with
    | nil => exact Or.inl ⟨rfl, rfl⟩
    | cons a t => exact Or.inr rfl
  refine XC_ofW (cc := μ.2.2.1) (maxL := μ.2.2.2.1) (ret := μ.2.2.2.2.1) (hh := μ.2.2.2.2.2) hk.2.2.2.2.1 hcw ?_
  intro p e s m args below meth c s₁ B hml htab hpc
  obtain ⟨rfl, hG, hw⟩ := hpc
  have hl := lv_entry av (n := μ.2.2.2.1) hlen
  rw [lg_entry_eq]
  rw [hlo] at hl
  refine k p e _ s m av.toArray below meth c ⟨hG, B.exec, B.bytes, hml, ?_, ?_, B.returns, B.notSynchronized, (name_of_methodNamed B.named B.method).1, Nat.le_refl d, Nat.le_refl _, htab⟩ gc gs s.heap [] 0 0 _ (by omega) (by omega) (Nat.le_refl _) (Nat.le_refl _) hw va_S.rf hl
  · rw [hk.2.2.2.2.2.1]
    exact findClass_of_methodNamed B.named
  · intro w hw
    exact xgood_args w (List.mem_filter.mp hw).2 (hG.2.2.2.2.1 w hw)
theorem XC.mono {av : List Value} {Q' : XRes → Wd → Prop} (h : ∀ r w', Q r w' → Q' r w') (k : XC G μ d gc gs av w Q) : XC G μ d gc gs av w Q' := by
  have h1 : ∀ a st o t, vx_Q (QJ G Q) (XQ G Q) gc gs G.2.2.2.1 a st o t → vx_Q (QJ G Q') (XQ G Q') gc gs G.2.2.2.1 a st o t := by
    intro a st o t h7
    rcases h7 with ⟨⟨⟨v, w', e1, e2, e3⟩, e4⟩, e5⟩ | ⟨q, e1, E, ce, L, ⟨⟨w', e2, e3⟩, e4⟩, e5⟩
    · exact Or.inl ⟨⟨⟨v, w', e1, h _ _ e2, e3⟩, e4⟩, e5⟩
    · exact Or.inr ⟨q, e1, E, ce, L, ⟨⟨w', h _ _ e2, e3⟩, e4⟩, e5⟩
  intro p e b1 b2 b3 s m args below b4 b5 b6 b7
  obtain ⟨n, o, c1, c2, c3, c4⟩ := k p e b1 b2 b3 s m args below b4 b5 b6 b7
  exact ⟨n, o, c1, c2, c3, h1 _ _ _ _ c4⟩
end XCalls
end
section
/-! THROWS, NEW THINGS, NATIVES, METHODS WITH HANDLERS, THE SCRIPT over XJ -/
section XMore
variable {G : Gx} {μ : Mth} {d gc gs pc : Nat} {lo : List (Nat × Value)} {st : List Value} {w : Wd} {Q : XRes → Wd → Prop}
theorem X_later {s t : State} {H : Heap} {locs : List Loc} {E : String} (hQ : Q (.inr E) w) (hw : WG G w H) (hS : va_S G.2.2.2.1 s.heap H locs) (hsz : H.size ≤ t.heap.size) (ho : ∀ q : Nat, q < H.size → t.heap[q]? = H[q]?) : XQ G Q E s t := by
  refine ⟨⟨w, hQ, hw.1.kept (fun k q hk => ho _ (hw.1 k q hk).lt), hw.2⟩, Nat.le_trans hS.1 hsz, fun q h1 h2 => ?_⟩
  rw [ho q (Nat.lt_of_lt_of_le h1 hS.1)]
  exact hS.2.1 q h1 h2
def xnames : List String := ["java/lang/RuntimeException", "java/lang/Exception"]
/-- what a throw of cls in class own needs of the tables -/
def ThrowOK (own cls : String) (ik ic : Nat) : Prop := Bundle.fit cls = true ∧ (∀ n ∈ xnames, Bundle.fit n = true) ∧ Cond.classLink own ik cls ∈ xall ∧ Cond.initialized cls ∈ xall ∧ (∀ w ∈ vx_atS own ic cls xnames, w ∈ xall) ∧ ∀ w ∈ Cond.classLink own ik cls :: Cond.initialized cls :: vx_atS own ic cls xnames, vx_ot w = true
theorem X_throwS {cls text : String} {ik is ic : Nat} (ok : ThrowOK μ.1 cls ik ic) (hstr : (μ.1, is, text) ∈ xstrs) (hh : μ.2.2.2.2.2 = [])
    (d0 : decode μ.2.2.1 pc = .ok (.new ik, 3)) (d3 : decode μ.2.2.1 (pc + 3) = .ok (.dup, 1)) (d4 : decode μ.2.2.1 (pc + 4) = .ok (.ldc is, 2)) (d6 : decode μ.2.2.1 (pc + 6) = .ok (.invokespecial ic, 3)) (d9 : decode μ.2.2.1 (pc + 9) = .ok (.athrow, 1))
    (hr : (st.map fun v => v.category).sum ≤ 8) (hdd : 6 ≤ d) (hgc : 1 ≤ gc) (hgs : 6 ≤ gs) (hQ : Q (.inr cls) w) : XJ G μ d gc gs pc lo st w Q := by
  intro p e R s m args below meth c hc mc ms H locs cells slots ls h1 h2 h3 h4 hw hS hl
  obtain ⟨sa, hsa⟩ := hc.1.2.2.2.1 _ hstr
  have ht := hc.2.2.2.2.2.1
  have hfr := hc.2.2.2.2.2.2.2.2.2.1
  have hlc := hc.2.2.2.2.2.2.2.2.2.2.1
  refine vx_throwS (names := xnames) (text := text) (sa := sa) (A := G.2.2.2.1) hc.2.1 hc.2.2.1 hc.1.2.2.2.2.2.2.1 hc.2.2.2.2.1 ok.1 ok.2.1 (ht _ ok.2.2.1) (ht _ ok.2.2.2.1) hsa (fun w hw => ht _ (ok.2.2.2.2.1 w hw)) ok.2.2.2.2.2 hc.1.2.1 hc.1.2.2.1 hS (hl.1.trans hc.2.2.2.1.symm) d0 d3 d4 d6 d9 ?_ (by show 2 + 3 < R.frames; omega) (by show _ + (13 * (2 + 1) + 43) ≤ R.locals; omega) (by omega) (by omega) hc.2.2.2.2.2.2.2.1 (fun t hA hsz ho => X_later hQ hw hS hsz ho) hS.2.2 (by omega) (by omega)
  intro x hx
  rw [hc.2.2.2.2.2.2.2.2.2.2.2, hh] at hx
  cases hx
theorem X_throwSW {cls text : String} {ik is ic : Nat} (ok : ThrowOK μ.1 cls ik ic) (hstr : (μ.1, is, text) ∈ xstrs) (hh : μ.2.2.2.2.2 = [])
    (d0 : decode μ.2.2.1 pc = .ok (.new ik, 3)) (d3 : decode μ.2.2.1 (pc + 3) = .ok (.dup, 1)) (d4 : decode μ.2.2.1 (pc + 4) = .ok (.ldc_w is, 3)) (d7 : decode μ.2.2.1 (pc + 7) = .ok (.invokespecial ic, 3)) (d10 : decode μ.2.2.1 (pc + 10) = .ok (.athrow, 1))
    (hr : (st.map fun v => v.category).sum ≤ 8) (hdd : 6 ≤ d) (hgc : 1 ≤ gc) (hgs : 6 ≤ gs) (hQ : Q (.inr cls) w) : XJ G μ d gc gs pc lo st w Q := by
  intro p e R s m args below meth c hc mc ms H locs cells slots ls h1 h2 h3 h4 hw hS hl
  obtain ⟨sa, hsa⟩ := hc.1.2.2.2.1 _ hstr
  have ht := hc.2.2.2.2.2.1
  have hfr := hc.2.2.2.2.2.2.2.2.2.1
  have hlc := hc.2.2.2.2.2.2.2.2.2.2.1
  refine vx_throwSW (names := xnames) (text := text) (sa := sa) (A := G.2.2.2.1) hc.2.1 hc.2.2.1 hc.1.2.2.2.2.2.2.1 hc.2.2.2.2.1 ok.1 ok.2.1 (ht _ ok.2.2.1) (ht _ ok.2.2.2.1) hsa (fun w hw => ht _ (ok.2.2.2.2.1 w hw)) ok.2.2.2.2.2 hc.1.2.1 hc.1.2.2.1 hS (hl.1.trans hc.2.2.2.1.symm) d0 d3 d4 d7 d10 ?_ (by show 2 + 3 < R.frames; omega) (by show _ + (13 * (2 + 1) + 43) ≤ R.locals; omega) (by omega) (by omega) hc.2.2.2.2.2.2.2.1 (fun t hA hsz ho => X_later hQ hw hS hsz ho) hS.2.2 (by omega) (by omega)
  intro x hx
  rw [hc.2.2.2.2.2.2.2.2.2.2.2, hh] at hx
  cases hx
/-! ## new things -/
theorem X_new {ci N index : Nat} {C : String} {T : u_T} {fs : List Value} (ty0 : Nat → FieldType) (hty : ∀ k, k < N → parseFieldDescriptor (T k).2.2.1 = some (ty0 k)) (hc0 : vwCl[ci]? = some (C, T, N)) (hin : ∀ q ∈ u_ws C T N, q ∈ xall) (hcl : Cond.classLink μ.1 index C ∈ xall) (hinst : Cond.instantiable C N ∈ xall) (hini : Cond.initialized C ∈ xall) (hfs : ∀ j, j < N → defaultValue (ty0 j) = vp_V fs j) (hgc : 1 ≤ gc) (hgs : N ≤ gs) (hd : decode μ.2.2.1 pc = .ok (.new index, 3))
    (kk : ∀ q : Nat, XJ G μ d (gc - 1) (gs - N) (pc + 3) lo (.ref q :: st) (addM w q (oB ci fs)) Q) : XJ G μ d gc gs pc lo st w Q := by
  intro p e R s m args below meth c hc mc ms H locs cells slots ls h1 h2 h3 h4 hw hS hl
  have ht := hc.2.2.2.2.2.1
  refine va_new hc.2.1 hc.2.2.1 ht hin ty0 hty hc.2.2.2.2.1 (ht _ hcl) (ht _ hinst) (ht _ hini) hc.1.1 hw.1 hw.2 hS hc.1.2.2.2.2.2.2.2.1 hc0 hfs (by omega) (by omega) hd ?_
  intro q H1 hP hD hS1
  rw [show (.inr (ci, fs) : va_E) = oB ci fs from rfl, xw_add] at hP hD
  exact kk q p e R s m args below meth c hc mc ms H1 locs (cells + 1) (slots + N) ls (by omega) (by omega) h3 h4 ⟨hP, hD⟩ hS1 hl
theorem X_newa {t N' : Nat} {atype : ArrayType} {ty : FieldType} {n : Int32} {a0 : vp_A} (hty : newarray.typeOf atype = ty) (ht0 : (tysK G.2.2.1)[t]? = some (G.2.2.1 t, ty)) (hne : ∀ C, ty ≠ .object C) (harr : Cond.arrayClass (newarray.typeOf atype) ∈ xall) (ha : ∀ cA : ClassId, vp_cell cA a0 = arrV cA N' (fun _ => defaultValue ty)) (hn : n = nI N') (hb : N' * componentBytes ty ≤ 536870912) (hb2 : N' < 2 ^ 31) (hgc : 1 ≤ gc) (hgs : N' ≤ gs) (hd : decode μ.2.2.1 pc = .ok (.newarray atype, 2))
    (kk : ∀ q : Nat, XJ G μ d (gc - 1) (gs - N') (pc + 2) lo (.ref q :: st) (addM w q (.inl (G.2.2.1 t, a0))) Q) : XJ G μ d gc gs pc lo (.int n :: st) w Q := by
  subst hn
  intro p e R s m args below meth c hc mc ms H locs cells slots ls h1 h2 h3 h4 hw hS hl
  have ht := hc.2.2.2.2.2.1
  refine va_newa hc.2.1 hc.2.2.1 (ht _ harr) hty hc.1.1 hw.1 hw.2 hS hc.1.2.2.2.2.2.2.2.1 ha (nI_pos hb2) (nI_clamp hb2) hb (by omega) (by omega) hd ?_
  intro q cA H1 hK hP hD hS1
  have e1 : va_RA s cA ty := (hK.2 (tysK G.2.2.1).length (cA, ty) (by simp)).2
  have e2 : va_RA s (G.2.2.1 t) ty := (hc.1.1.2 t _ ht0).2
  have e3 : cA = G.2.2.1 t := by
    cases ty with
    | object C => exact absurd rfl (hne C)
    | _ =>
      simp only [va_RA] at e1 e2
      rw [e1] at e2
      exact Option.some.inj e2
  subst e3
  rw [xw_add] at hP hD
  exact kk q p e R s m args below meth c hc mc ms H1 locs (cells + 1) (slots + N') ls (by omega) (by omega) h3 h4 ⟨hP, hD⟩ hS1 hl
theorem X_objInit {a index : Nat} (hlink : Cond.methodLink μ.1 index Lib.objectInit ∈ xall) (hinst : Cond.instanceMethod Lib.objectInit ∈ xall) (hcode : Cond.code Lib.objectInit ⟨#[0xb1]⟩ 1 none ∈ xall) (hr : (st.map fun v => v.category).sum ≤ 8) (hdd : 1 ≤ d) (hd : decode μ.2.2.1 pc = .ok (.invokespecial index, 3))
    (kk : XJ G μ d gc gs (pc + 3) lo st w Q) : XJ G μ d gc gs pc lo (.ref a :: st) w Q := by
  intro p e R s m args below meth c hc mc ms H locs cells slots ls h1 h2 h3 h4 hw hS hl
  have ht := hc.2.2.2.2.2.1
  have hfr := hc.2.2.2.2.2.2.2.2.2.1
  have hlc := hc.2.2.2.2.2.2.2.2.2.2.1
  refine W.objInit hc.2.1 hc.2.2.1 hc.2.2.2.2.1 (ht _ hlink) (ht _ hinst) (ht _ hcode) rfl (by rw [hc.2.2.2.1]; exact hl.1) rfl hd (by omega) (by have := lv_room (m := m) (pc := pc) (ls := ls) (rest := st) hr; simp only [] at this ⊢; omega) ?_
  exact kk p e R s m args below meth c hc mc ms H locs cells slots ls h1 h2 h3 h4 hw hS hl
/-! ## natives -/
theorem X_f2ib {x : UInt32} {index : Nat} (hlink : Cond.methodLink μ.1 index ⟨"java/lang/Float", "floatToRawIntBits", "(F)I"⟩ ∈ xall) (hnat : Cond.native ⟨"java/lang/Float", "floatToRawIntBits", "(F)I"⟩ ∈ xall) (hstat : Cond.static ⟨"java/lang/Float", "floatToRawIntBits", "(F)I"⟩ ∈ xall) (hini : Cond.initialized "java/lang/Float" ∈ xall) (hr : (st.map fun v => v.category).sum ≤ 8) (hdd : 1 ≤ d) (hd : decode μ.2.2.1 pc = .ok (.invokestatic index, 3))
    (kk : XJ G μ d gc gs (pc + 3) lo (.int x.toInt32 :: st) w Q) : XJ G μ d gc gs pc lo (.float x :: st) w Q := by
  intro p e R s m args below meth c hc mc ms H locs cells slots ls h1 h2 h3 h4 hw hS hl
  have ht := hc.2.2.2.2.2.1
  have hfr := hc.2.2.2.2.2.2.2.2.2.1
  have hlc := hc.2.2.2.2.2.2.2.2.2.2.1
  exact vn_f2i hc.2.1 hc.2.2.1 (by rw [hc.2.2.2.1]; exact hl.1.symm) hc.2.2.2.2.1 (ht _ hlink) (ht _ hnat) (ht _ hstat) (ht _ hini) (by omega) (by omega) hd (kk p e R s m args below meth c hc mc ms H locs cells slots ls h1 h2 h3 h4 hw hS hl)
theorem X_d2lb {x : UInt64} {index : Nat} (hlink : Cond.methodLink μ.1 index ⟨"java/lang/Double", "doubleToRawLongBits", "(D)J"⟩ ∈ xall) (hnat : Cond.native ⟨"java/lang/Double", "doubleToRawLongBits", "(D)J"⟩ ∈ xall) (hstat : Cond.static ⟨"java/lang/Double", "doubleToRawLongBits", "(D)J"⟩ ∈ xall) (hini : Cond.initialized "java/lang/Double" ∈ xall) (hr : (st.map fun v => v.category).sum ≤ 8) (hdd : 1 ≤ d) (hd : decode μ.2.2.1 pc = .ok (.invokestatic index, 3))
    (kk : XJ G μ d gc gs (pc + 3) lo (.long x.toInt64 :: st) w Q) : XJ G μ d gc gs pc lo (.double x :: st) w Q := by
  intro p e R s m args below meth c hc mc ms H locs cells slots ls h1 h2 h3 h4 hw hS hl
  have ht := hc.2.2.2.2.2.1
  have hfr := hc.2.2.2.2.2.2.2.2.2.1
  have hlc := hc.2.2.2.2.2.2.2.2.2.2.1
  exact vn_d2l hc.2.1 hc.2.2.1 (by rw [hc.2.2.2.1]; exact hl.1.symm) hc.2.2.2.2.1 (ht _ hlink) (ht _ hnat) (ht _ hstat) (ht _ hini) (by omega) (by omega) hd (kk p e R s m args below meth c hc mc ms H locs cells slots ls h1 h2 h3 h4 hw hS hl)
theorem X_ldcw {index : Nat} {v : Int32} (hd : decode μ.2.2.1 pc = .ok (.ldc_w index, 3)) (hc : Cond.constant μ.1 index v ∈ xall) (k : XJ G μ d gc gs (pc + 3) lo (.int v :: st) w Q) : XJ G μ d gc gs pc lo (st) w Q :=
  XJ.step (fun hx hb hown ht hS ls hl kk => lv_ldcw hx hb hown (ht _ hc) hd kk) k
/-- System.arraycopy from the start of one row of ints (or chars) to the start of another -/
theorem X_copyi {a0 a1 i0 i1 t n0 n1 n index : Nat} {ty : FieldType} {f g : Nat → Int32} (hM0 : cel w i0 (.inl (G.2.2.1 t, n0, .inl f))) (hM1 : cel w i1 (.inl (G.2.2.1 t, n1, .inl g))) (ha0 : w.1 i0 = a0) (ha1 : w.1 i1 = a1) (ht : (tysK G.2.2.1)[t]? = some (G.2.2.1 t, ty)) (hprim : refKind ty = false)
    (hlink : Cond.methodLink μ.1 index arraycopyName ∈ xall) (hnat : Cond.native arraycopyName ∈ xall) (hstat : Cond.static arraycopyName ∈ xall) (hini : Cond.initialized "java/lang/System" ∈ xall)
    (hb : n < 2 ^ 31) (h4 : n ≤ n0) (h5 : n ≤ n1) (hfit : ∀ i, i < n → fits ty (.int (f i)) = true) (hr : (st.map fun v => v.category).sum ≤ 8) (hdd : 1 ≤ d) (hd : decode μ.2.2.1 pc = .ok (.invokestatic index, 3))
    (kk : XJ G μ d gc gs (pc + 3) lo st (setM w i1 (.inl (G.2.2.1 t, n1, .inl (va_cpy f g 0 0 n)))) Q) : XJ G μ d gc gs pc lo (.int (nI n) :: .int 0 :: .ref a1 :: .int 0 :: .ref a0 :: st) w Q := by
  subst ha0
  subst ha1
  intro p e R s m args below meth c hc mc ms H locs cells slots ls g1 g2 g3 g4 hw hS hl
  have hts := hc.2.2.2.2.2.1
  have hfr := hc.2.2.2.2.2.2.2.2.2.1
  have hlc := hc.2.2.2.2.2.2.2.2.2.2.1
  have e0 : (0 : Int32).toNatClampNeg = 0 := by decide +kernel
  refine va_copyi (f := f) (g := g) hc.2.1 hc.2.2.1 (by rw [hc.2.2.2.1]; exact hl.1.symm) hc.2.2.2.2.1 (hts _ hlink) (hts _ hnat) (hts _ hstat) (hts _ hini) hc.1.1 hw.1 hw.2 hS i0 i1 t t hM0.at hM1.at ht ht hprim (by decide) (by decide) (nI_pos hb) (by rw [e0, nI_clamp hb]; omega) (by rw [e0, nI_clamp hb]; omega) (by rw [nI_clamp hb, e0]; intro i hi; rw [Nat.zero_add]; exact hfit i hi) (by omega) ?_ hd ?_
  · have hw2 : nativeFrameWords "java/lang/System" "arraycopy" 5 ≤ 20 := by decide +kernel
    omega
  · intro H1 locs1 hP hD hS1
    rw [e0, nI_clamp hb] at hP hD
    have ee := xw_set (e := .inl (G.2.2.1 t, n1, .inl (va_cpy f g 0 0 n))) hM1.1
    exact kk p e R s m args below meth c hc mc ms H1 locs1 cells slots ls g1 g2 g3 g4 ⟨by rw [← ee]; exact hP, by rw [← ee]; exact hD⟩ hS1 hl
theorem X_copyl {a0 a1 i0 i1 n0 n1 n index : Nat} {f g : Nat → Int64} (hM0 : cel w i0 (aL G.2.2.1 n0 f)) (hM1 : cel w i1 (aL G.2.2.1 n1 g)) (ha0 : w.1 i0 = a0) (ha1 : w.1 i1 = a1)
    (hlink : Cond.methodLink μ.1 index arraycopyName ∈ xall) (hnat : Cond.native arraycopyName ∈ xall) (hstat : Cond.static arraycopyName ∈ xall) (hini : Cond.initialized "java/lang/System" ∈ xall)
    (hb : n < 2 ^ 31) (h4 : n ≤ n0) (h5 : n ≤ n1) (hr : (st.map fun v => v.category).sum ≤ 8) (hdd : 1 ≤ d) (hd : decode μ.2.2.1 pc = .ok (.invokestatic index, 3))
    (kk : XJ G μ d gc gs (pc + 3) lo st (setM w i1 (aL G.2.2.1 n1 (va_cpy f g 0 0 n))) Q) : XJ G μ d gc gs pc lo (.int (nI n) :: .int 0 :: .ref a1 :: .int 0 :: .ref a0 :: st) w Q := by
  subst ha0
  subst ha1
  intro p e R s m args below meth c hc mc ms H locs cells slots ls g1 g2 g3 g4 hw hS hl
  have hts := hc.2.2.2.2.2.1
  have hfr := hc.2.2.2.2.2.2.2.2.2.1
  have hlc := hc.2.2.2.2.2.2.2.2.2.2.1
  have e0 : (0 : Int32).toNatClampNeg = 0 := by decide +kernel
  refine va_copyl (f := f) (g := g) hc.2.1 hc.2.2.1 (by rw [hc.2.2.2.1]; exact hl.1.symm) hc.2.2.2.2.1 (hts _ hlink) (hts _ hnat) (hts _ hstat) (hts _ hini) hc.1.1 hw.1 hw.2 hS i0 i1 3 3 hM0.at hM1.at rfl rfl rfl (by decide) (by decide) (nI_pos hb) (by rw [e0, nI_clamp hb]; omega) (by rw [e0, nI_clamp hb]; omega) (by intro i hi; rfl) (by omega) ?_ hd ?_
  · have hw2 : nativeFrameWords "java/lang/System" "arraycopy" 5 ≤ 20 := by decide +kernel
    omega
  · intro H1 locs1 hP hD hS1
    rw [e0, nI_clamp hb] at hP hD
    have ee := xw_set (e := aL G.2.2.1 n1 (va_cpy f g 0 0 n)) hM1.1
    exact kk p e R s m args below meth c hc mc ms H1 locs1 cells slots ls g1 g2 g3 g4 ⟨by rw [← ee]; exact hP, by rw [← ee]; exact hD⟩ hS1 hl
/-! ## methods with handlers -/
theorem X_callSW {μ' : Mth} {n index : Nat} {av rest : List Value} {d' gc' gs' gc2 gs2 : Nat} {Q1 : XRes → Wd → Prop} {h0 : Nat × Nat × Nat × Nat} {ht : List (Nat × Nat × Nat × Nat)} (hC : XC G μ' d' gc' gs' av w Q1) (hk : KM μ' n) (hh : μ'.2.2.2.2.2 = h0 :: ht) (hlink : Cond.methodLink μ.1 index μ'.2.1 ∈ xall) (hstat : Cond.static μ'.2.1 ∈ xall) (hn : av.length = n) (hst : st = av.reverse ++ rest) (hr : (rest.map fun v => v.category).sum ≤ 8) (hdd : d' + 1 ≤ d) (hd : decode μ.2.2.1 pc = .ok (.invokestatic index, 3))
    (h1 : gc' + gc2 ≤ gc) (h2 : gs' + gs2 ≤ gs)
    (kx : ∀ (E : String) (w1 : Wd), Q1 (.inr E) w1 → XT G μ d gc2 gs2 pc lo w1 Q E)
    (kk : ∀ (v : Option Value) (w1 : Wd), Q1 (.inl v) w1 → XJ G μ d gc2 gs2 (pc + 3) lo (v.toList ++ rest) w1 Q) : XJ G μ d gc gs pc lo st w Q := by
  have hcw : xword μ' = Cond.codeWith μ'.2.1 μ'.2.2.1 μ'.2.2.2.1 μ'.2.2.2.2.1 μ'.2.2.2.2.2 := by unfold xword; rw [hh]
  refine XJ.call (av := av) (d' := d') (gc' := gc') (gs' := gs') (gc2 := gc2) (gs2 := gs2) (Q1 := Q1) (rest := rest) ?_ h1 h2 kx kk
  intro p e R s m args below meth c H locs cells slots ls hc hw hS hsz hf
  have ht := hc.2.2.2.2.2.1
  have hfr := hc.2.2.2.2.2.2.2.2.2.1
  have hlc := hc.2.2.2.2.2.2.2.2.2.2.1
  have hml := hk.2.2.2.2.2.2
  exact vx_runSX (Ts := xall) (hh := μ'.2.2.2.2.2) ⟨hc.2.1, hc.2.2.1, hc.2.2.2.1, hc.2.2.2.2.1, ht⟩ hC ⟨⟨rfl, rfl, by show d' + 1 ≤ R.frames; omega, by show 8 + (μ'.2.2.2.1 + 11) + 64 * d' ≤ R.locals; omega, hk.words ht, by rw [xws, hcw]; exact List.mem_singleton.mpr rfl⟩, by rw [← hcw]; exact ht _ hk.1, ht _ hk.2.1, hk.2.2.1, hk.pars, ht _ hlink, ht _ hstat⟩ ⟨PC_blind, fun U hU hW => PC_at hc.1 hw hS hU hW⟩ rfl hn hsz hst (lv_room hr) hd hf


/-- the same heap seen as another world: each of its cells is a cell of the old one -/
theorem WG.by {G : Gx} {w w' : Wd} {H : Heap} (f : Nat → Nat) (hf : ∀ i, i < w'.2.1 → f i < w.2.1 ∧ w.1 (f i) = w'.1 i ∧ w.2.2 (f i) = w'.2.2 i) (hinj : ∀ i j, i < w'.2.1 → j < w'.2.1 → f i = f j → i = j) (h : WG G w H) : WG G w' H := by
  have key : ∀ (k : Nat) (q : Nat × va_E), (xw w')[k]? = some q → k < w'.2.1 ∧ (xw w)[f k]? = some q := by
    intro k q hk
    have hlt : k < w'.2.1 := by
      have := (List.getElem?_eq_some_iff.mp hk).1
      simpa [xw] using this
    obtain ⟨h1, h2, h3⟩ := hf k hlt
    refine ⟨hlt, ?_⟩
    rw [xw_at h1, h2, h3, ← xw_at hlt]
    exact hk
  refine ⟨fun k q hk => h.1 (f k) q (key k q hk).2, ?_, fun k q hk => h.2.2 (f k) q (key k q hk).2⟩
  intro i j p q hi hj hpq
  exact hinj i j (key i p hi).1 (key j q hj).1 (h.2.1 (f i) (f j) p q (key i p hi).2 (key j q hj).2 hpq)
theorem XJ.by {w' : Wd} (f : Nat → Nat) (hf : ∀ i, i < w'.2.1 → f i < w.2.1 ∧ w.1 (f i) = w'.1 i ∧ w.2.2 (f i) = w'.2.2 i) (hinj : ∀ i j, i < w'.2.1 → j < w'.2.1 → f i = f j → i = j) (k : XJ G μ d gc gs pc lo st w' Q) : XJ G μ d gc gs pc lo st w Q := by
  intro p e R s m args below meth c hc mc ms H locs cells slots ls h1 h2 h3 h4 hw hS hl
  exact k p e R s m args below meth c hc mc ms H locs cells slots ls h1 h2 h3 h4 (hw.by f hf hinj) hS hl
/-- the last cell takes the place of cell i, which is given up -/
def dropM (w : Wd) (i : Nat) : Wd := (fun j => bif Nat.beq j i then w.1 (w.2.1 - 1) else w.1 j, w.2.1 - 1, fun j => bif Nat.beq j i then w.2.2 (w.2.1 - 1) else w.2.2 j)
theorem XJ.drop (i : Nat) (hi : i < w.2.1 - 1) (k : XJ G μ d gc gs pc lo st (dropM w i) Q) : XJ G μ d gc gs pc lo st w Q := by
  refine XJ.by (fun j => bif Nat.beq j i then w.2.1 - 1 else j) ?_ ?_ k
  · intro j hj
    have hj' : j < w.2.1 - 1 := hj
    cases hb : Nat.beq j i with
    | true => exact ⟨by simp only [cond_true]; omega, by show _ = bif Nat.beq j i then _ else _; rw [hb]; rfl, by show _ = bif Nat.beq j i then _ else _; rw [hb]; rfl⟩
    | false => exact ⟨by simp only [cond_false]; omega, by show _ = bif Nat.beq j i then _ else _; rw [hb]; rfl, by show _ = bif Nat.beq j i then _ else _; rw [hb]; rfl⟩
  · intro j k hj hk he
    have hj' : j < w.2.1 - 1 := hj
    have hk' : k < w.2.1 - 1 := hk
    cases hb : Nat.beq j i <;> cases hb2 : Nat.beq k i <;> rw [hb, hb2] at he <;> simp only [cond_true, cond_false] at he
    · exact he
    · omega
    · omega
    · rw [Nat.eq_of_beq_eq_true hb, Nat.eq_of_beq_eq_true hb2]
/-! ## the script -/
theorem X_sld {j : Nat} {x : Int32} (hx0 : x = nI j) (hj : j < G.2.2.2.2.2.1) (hn : G.2.2.2.2.2.1 < 2 ^ 31) (hd : decode μ.2.2.1 pc = .ok (.iaload, 1))
    (kk : XJ G μ d gc gs (pc + 1) lo (.int (G.2.2.2.2.2.2 j) :: st) w Q) : XJ G μ d gc gs pc lo (.int x :: .ref G.2.2.2.2.1 :: st) w Q := by
  subst hx0
  refine XJ.stepG (fun hx hw hS ls k1 => va_sld hx.2.1 hx.2.2.1 hx.1.2.2.2.2.2.2.2.2.1 hx.1.2.2.2.2.2.2.2.2.2.1 hx.1.2.2.2.2.2.2.2.2.2.2 hS (vp_in_nI hj hn) hd ?_) kk
  rw [nI_clamp (Nat.lt_trans hj hn)]
  exact k1
theorem X_slen (hd : decode μ.2.2.1 pc = .ok (.arraylength, 1))
    (kk : XJ G μ d gc gs (pc + 1) lo (.int (nI G.2.2.2.2.2.1) :: st) w Q) : XJ G μ d gc gs pc lo (.ref G.2.2.2.2.1 :: st) w Q :=
  XJ.stepG (fun hx hw hS ls k1 => va_slen hx.2.1 hx.2.2.1 hx.1.2.2.2.2.2.2.2.2.1 hx.1.2.2.2.2.2.2.2.2.2.1 hx.1.2.2.2.2.2.2.2.2.2.2 hS hd k1) kk
end XMore
end
section
/-! A THROW whose constructor stands at another number of its class file's pool (NoSuchElementException: 13): the kit's words vx_atS say 7 for every link of the chain. After the library's ctorThrowS (BundleOwnThrow) and the kit's vx_throwSW, with the first link's number as a parameter. -/
section Nse
/-- the words of the first link at number ix, of the others as ever -/
def nse_chain (X : String) (ix : Nat) (rx : ByteArray) : List String → List Cond
  | [] => Bundle.passSAtoms X Bundle.tN ix rx
  | Y :: r => Bundle.passSAtoms X Y ix rx ++ Bundle.chainSAtoms Y r
def nse_tail (own : String) (ic : Nat) (X : String) : List Cond :=
  [.methodLink own ic (Bundle.initS X), .instantiable X 6, .castable X X, .selects X Bundle.tFill0 Bundle.tFill0, .selects X Bundle.tFill Bundle.tFill,
   .lays X Bundle.tN "cause" "Ljava/lang/Throwable;", .lays X Bundle.tN "stackTrace" Bundle.steD, .lays X Bundle.tN "suppressedExceptions" Bundle.listD, .lays X Bundle.tN "detailMessage" "Ljava/lang/String;",
   .isRef (.static Bundle.tN "UNASSIGNED_STACK" Bundle.steD), .isRef (.static Bundle.tN "SUPPRESSED_SENTINEL" Bundle.listD),
   .fieldLink Bundle.tN 198 Bundle.tN "backtrace" "Ljava/lang/Object;", .lays Bundle.tN Bundle.tN "backtrace" "Ljava/lang/Object;", .lays X Bundle.tN "backtrace" "Ljava/lang/Object;"]
def nse_all (own : String) (ic : Nat) (X : String) (ix : Nat) (rx : ByteArray) (names : List String) : List Cond :=
  Bundle.throwableAtoms ++ Bundle.throwableSAtoms ++ nse_chain X ix rx names ++ nse_tail own ic X
theorem nse_links {args : Array Value} {s : State} {pl : Platform} (hpl : pl.magicAccessors = ({} : Platform).magicAccessors) {top : MethodId} (htop : s.methodNamed? (Bundle.initS Bundle.tN) = some top)
    {ix : Nat} {rx : ByteArray} (x0 : decode rx 0 = .ok (.aload_n 0, 1)) (x1 : decode rx 1 = .ok (.aload_n 1, 1)) (x2 : decode rx 2 = .ok (.invokespecial ix, 3)) (x5 : decode rx 5 = .ok (.return_, 1))
    (names : List String) (X : String) (hX : Bundle.fit X = true) (hn : ∀ n ∈ names, Bundle.fit n = true) (h : ∀ c ∈ nse_chain X ix rx names, c.before args s = true) :
      ∃ (P1 : PassC) (Ps : List PassC), Ps.length = names.length ∧ P1.LinksS pl s ∧ (∀ P, P ∈ Ps → P.LinksS pl s) ∧ s.methodNamed? (Bundle.initS X) = some P1.m ∧
        P1.sup = firstOf top (Ps.map (·.toPassT)) ∧ PassesOn top (Ps.map (·.toPassT)) := by
  cases names with
  | nil =>
    obtain ⟨P, L, hm, hs⟩ := PassC.ofS_atoms (args := args) (s := s) hpl (X := X) (Y := Bundle.tN) (Bundle.fit_spec hX).1 (by decide) x0 x1 x2 x5 h
    exact ⟨P, [], rfl, L, (fun _ hP => by cases hP), hm, Option.some.inj (hs.symm.trans htop), trivial⟩
  | cons Y r =>
    have hYfit := hn Y List.mem_cons_self
    obtain ⟨P, L, hm, hs⟩ := PassC.ofS_atoms (args := args) (s := s) hpl (X := X) (Y := Y) (Bundle.fit_spec hX).1 (Bundle.fit_spec hYfit).2 x0 x1 x2 x5
      (fun c hc => h c (List.mem_append.mpr (Or.inl hc)))
    obtain ⟨P', Ps, hlen, L', hL, hm', hsup, hpass⟩ := Bundle.chainS (args := args) hpl htop r Y hYfit (fun n hn' => hn n (List.mem_cons_of_mem _ hn')) (fun c hc => h c (List.mem_append.mpr (Or.inr hc)))
    refine ⟨P, P' :: Ps, by simp [hlen], L, ?_, hm, Option.some.inj (hs.symm.trans hm'), hsup, hpass⟩
    intro Q hQ
    rcases List.mem_cons.mp hQ with rfl | hQ
    · exact L'
    · exact hL Q hQ
variable {p : Program} {l : Launch} {e : Env} {R : Room} {s : State} {m₀ : MethodId} {args : Array Value} {below : List Frame} {meth : Method} {c : Code} {T0 : State} {locs : List Loc} {cells slots : Nat}
set_option maxHeartbeats 2000000 in
theorem nse_ctor (X : Stand p l e R s m₀ args below meth c T0 locs cells slots) (hexec : p.tables.exec = Jvm.exec) (htr : e.platform.stackTraces = false) {own cls : String} {names : List String} {ic ix : Nat} {rx : ByteArray}
    (x0 : decode rx 0 = .ok (.aload_n 0, 1)) (x1 : decode rx 1 = .ok (.aload_n 1, 1)) (x2 : decode rx 2 = .ok (.invokespecial ix, 3)) (x5 : decode rx 5 = .ok (.return_, 1))
    (hown : s.vm.findClass own = some m₀.cls) (hcls : Bundle.fit cls = true) (hnames : ∀ n ∈ names, Bundle.fit n = true)
    (h : ∀ a ∈ nse_all own ic cls ix rx names, a.before args s = true) (hins0 : (Cond.instanceMethod (Bundle.initS cls)).before args s = true) (hcode0 : (Cond.code (Bundle.initS cls) rx 2 none).before args s = true)
    (hlocs : ∀ x ∈ locs, ∀ cell, s.heap[x.base]? = some cell → cell.vm.isStatics = false)
    {a : Addr} {cX : ClassId} {kX : Class} (hfoundX : s.vm.findClass cls = some cX) (hkX : s.vm.classes[cX]? = some kX) (hcell : T0.heap[a]? = some (freshCell cX kX)) (hnew : s.heap.size ≤ a)
    {msg : Value} (hmsg : msg.isRef = true)
    {g : JFrame} (hg : g.method = m₀) (hsize : g.locals.size = c.maxLocals) (hlocked : g.locked = none) (hentered : g.entered = []) {rest : List Value} (hstack : g.stack = msg :: .ref a :: .ref a :: rest)
    (hd6 : decode c.code g.pc = .ok (.invokespecial ic, 3)) (hd9 : decode c.code (g.pc + 3) = .ok (.athrow, 1)) (hout : ∀ x ∈ c.exceptionTable.toList, covers x (g.pc + 3) = false)
    (hRframes : names.length + 3 < R.frames) (hRlocals : 2 * g.monitorRoom + ((Value.ref a :: rest).map fun v => v.category).sum + (13 * (names.length + 1) + 42) ≤ R.locals) (hlocks : meth.locks = false) :
    ∃ U : State, Steps p.tables e below (T0.setTop g) U ∧ U.status = .running ∧ Ended U below (.threw a) ∧ s.WarmedH U.vm ∧ s.sameButNew ({ U with vm := s.vm } : State) locs cells slots ∧
      ∃ ce, U.heap[a]? = some ce ∧ ce.vm = .none ∧ s.vm.findClass cls = some ce.cls := by
  have howns : e.platform.frameOwnsMonitors = true := by rw [X.admits.platform]
  have hfin : e.platform.finalization = false := by rw [X.admits.platform]
  have hpl : e.platform.magicAccessors = ({} : Platform).magicAccessors := by rw [X.admits.platform]
  have h1 : ∀ x ∈ Bundle.throwableAtoms, x.before args s = true := fun x hx => h x (by simp [nse_all, hx])
  have h2 : ∀ x ∈ Bundle.throwableSAtoms, x.before args s = true := fun x hx => h x (by simp [nse_all, hx])
  have h3 : ∀ x ∈ nse_chain cls ix rx names, x.before args s = true := fun x hx => h x (by simp [nse_all, hx])
  have h4 : ∀ x ∈ nse_tail own ic cls, x.before args s = true := fun x hx => h x (by simp [nse_all, hx])
  have a' : ∀ x, x ∈ nse_tail own ic cls → x.holds args s none s [] = true := fun x hx => h4 x hx
  obtain ⟨T, Z0, L, -, Y⟩ := ThrowableC.of_atoms (args := args) howns hfin hpl h1
  obtain ⟨Z, M, LZ, LM, hnZ⟩ := Init0T.ofS_atoms (args := args) hpl L Y h2
  obtain ⟨P1, Ps, hlen, L1, hL, hP1m, hlink1, hlink⟩ := nse_links (args := args) hpl hnZ x0 x1 x2 x5 names cls hcls hnames h3
  have hfound : s.vm.findClass cls = some P1.m.cls := findClass_of_methodNamed hP1m
  cases Option.some.inj (hfoundX.symm.trans hfound)
  obtain ⟨c1, kX', hc1, hk, hord, -, -, hn6⟩ := Cond.instantiable_spec (a' (.instantiable cls 6) (by simp [nse_tail]))
  cases Option.some.inj (hc1.symm.trans hfound)
  cases Option.some.inj (hkX.symm.trans hk)
  have hsel0 : selectMethod e.platform s.vm P1.m.cls T.fill0 = .method T.fill0 := by
    obtain ⟨c2, r2, m2, q1, q2, q3, q4, -⟩ := Cond.selects_spec (a' (.selects cls Bundle.tFill0 Bundle.tFill0) (by simp [nse_tail]))
    cases Option.some.inj (q1.symm.trans hfound)
    cases Option.some.inj (q2.symm.trans (State.methodFound?_of_named Y.fill0 (by decide)))
    cases Option.some.inj (q3.symm.trans Y.fill0)
    rw [Launch.admits_selectMethod X.admits]; exact q4
  have hselF : selectMethod e.platform s.vm P1.m.cls T.fill = .method T.fill := by
    obtain ⟨c2, r2, m2, q1, q2, q3, q4, -⟩ := Cond.selects_spec (a' (.selects cls Bundle.tFill Bundle.tFill) (by simp [nse_tail]))
    cases Option.some.inj (q1.symm.trans hfound)
    cases Option.some.inj (q2.symm.trans (State.methodFound?_of_named Y.fill (by decide)))
    cases Option.some.inj (q3.symm.trans Y.fill)
    rw [Launch.admits_selectMethod X.admits]; exact q4
  obtain ⟨cellS0, hcS0, hiss⟩ := Y.statics
  obtain ⟨u0, hu0⟩ := Cond.staticRefV Y.unassigned L.unassignedStatic L.statics hcS0 hiss (a' (.isRef (.static Bundle.tN "UNASSIGNED_STACK" Bundle.steD)) (by simp [nse_tail]))
  obtain ⟨sen, hsen⟩ := Cond.staticRefV Y.sentinel L.sentinelStatic L.statics hcS0 hiss (a' (.isRef (.static Bundle.tN "SUPPRESSED_SENTINEL" Bundle.listD)) (by simp [nse_tail]))
  obtain ⟨ci198, i198, fB, hk198, hg198, ha198, hsB, -, hnB, htB, hffB⟩ := Cond.ownField (t := .object "java/lang/Object") Y.found L.cls (by decide +kernel) (a' (.fieldLink Bundle.tN 198 Bundle.tN "backtrace" "Ljava/lang/Object;") (by simp [nse_tail])) (a' (.lays Bundle.tN Bundle.tN "backtrace" "Ljava/lang/Object;") (by simp [nse_tail])) e.platform hpl
  obtain ⟨cellS, hcS', heS, -, hkeep⟩ := X.same.2.2.2.2.2 T.aS cellS0 hcS0
  have hcellS : T0.heap[T.aS]? = some cellS := hcS'
  have hout' : ∀ i, (⟨T.aS, i⟩ : Loc) ∉ locs := fun i hmem => by
    have := hlocs _ hmem cellS0 hcS0
    rw [hiss] at this; cases this
  have hknownS : cellS.vm ≠ .unknown := by
    rw [heS]; intro hu
    rw [show cellS0.vm = .unknown from hu] at hiss
    cases hiss
  have hneS : T.aS ≠ a := Nat.ne_of_lt (Nat.lt_of_lt_of_le (Array.getElem?_eq_some_iff.mp hcS0).1 hnew)
  obtain ⟨iM, hffM⟩ := Y.msg
  obtain ⟨tyC, dC, hdC, hdnC⟩ := Cond.laysAt hfound hk Y.cause (a' (.lays cls Bundle.tN "cause" "Ljava/lang/Throwable;") (by simp [nse_tail]))
  obtain ⟨tyS, dS, hdS, hdnS⟩ := Cond.laysAt hfound hk Y.stack (a' (.lays cls Bundle.tN "stackTrace" Bundle.steD) (by simp [nse_tail]))
  obtain ⟨tyP, dP, hdP, hdnP⟩ := Cond.laysAt hfound hk Y.supp (a' (.lays cls Bundle.tN "suppressedExceptions" Bundle.listD) (by simp [nse_tail]))
  obtain ⟨tyM, dM, hdM, hdnM⟩ := Cond.laysAt hfound hk hffM (a' (.lays cls Bundle.tN "detailMessage" "Ljava/lang/String;") (by simp [nse_tail]))
  obtain ⟨tyB, dB, hdB, hdnB⟩ := Cond.laysAt hfound hk hffB (a' (.lays cls Bundle.tN "backtrace" "Ljava/lang/Object;") (by simp [nse_tail]))
  have bC := Cond.laysApart hdB hdC hdnB hdnC (by rw [hnB, Y.causeName]; decide)
  have bS := Cond.laysApart hdB hdS hdnB hdnS (by rw [hnB, Y.stackName]; decide)
  have bP := Cond.laysApart hdB hdP hdnB hdnP (by rw [hnB, Y.suppName]; decide)
  have hskip : SkipFacts T e.platform s (fun u => u) u0 ((preparedCellV T.toThrowableT (freshCell P1.m.cls kX) a u0 sen).withEntry T0.cur) :=
    ⟨{ ci198 := ci198, i198 := i198, fBack := fB }, ⟨hk198, hg198, ha198, hsB⟩, by
      have := fresh_default (c := P1.m.cls) tyB
      rw [htB] at this
      simpa [preparedCellV, Cell.setSlot, Cell.withEntry, Array.getElem?_setIfInBounds, bC, bS, bP, bC.symm, bS.symm, bP.symm, defaultValue] using this, fun _ _ => rfl⟩
  obtain ⟨tm, methC, cdC, kC, vm₁, hnC, -, -, -, -, -, -, -, hW₁, st1⟩ := Steps.initColdS (tb := p.tables) (e := e) (below := below) (s := s) (U := T0) X.here hexec X.warmed hpl hown (t := Bundle.initS cls) rfl rfl (Bundle.fit_spec hcls).2
    (a' (.methodLink own ic (Bundle.initS cls)) (by simp [nse_tail])) hins0 (bytes := rx) (maxL := 2) hcode0
    (f := g) hg (a := a) (msg := msg) (rest := .ref a :: rest) hstack hd6
  cases Option.some.inj (hnC.symm.trans hP1m)
  have X₁ := X.noted hW₁
  obtain ⟨vm₂, X₂, st2⟩ := X₁.ctorMessageOffV hexec (g := { g with stack := .ref a :: rest }) hg hsize T L Z LZ M LM (P1 :: Ps)
    (fun P hP => by rcases List.mem_cons.mp hP with rfl | hP; exact L1; exact hL P hP) ⟨hlink1, hlink⟩ (u0 := u0) (sen := sen) (self := a) hmsg (cell := freshCell P1.m.cls kX) (cellS := cellS)
    hcell (fun _ => by simp) (by simp) rfl rfl hsel0 hselF hcellS hneS hknownS (by rw [hkeep _ (hout' _)]; exact hu0) (by rw [hkeep _ (hout' _)]; exact hsen)
    (Takes.of_laid hk hord tyC (by rw [Y.causeType]; rfl)) (Takes.of_laid hk hord tyS (by rw [Y.stackType]; exact fits_refV_array _ u0)) (Takes.of_laid hk hord tyP (by rw [Y.suppType]; exact fits_refV_object _ sen))
    (Takes.of_laid hk hord tyM (by rw [Y.msgType]; exact fits_refV_object _ ⟨msg, hmsg⟩)) Y.objLocals hskip htr [] hd6
    (by simp only [List.length_cons, hlen]; omega) (by simp only [List.length_cons, hlen]; exact hRlocals)
  obtain ⟨hwalk, hrun, hended, hWU, hsame⟩ := X₂.athrowLeaves hexec (g := { g with stack := .ref a :: rest, pc := g.pc + 3 }) hg hlocked hentered hout (a := a) (rest := rest) rfl hd9
  have hlt : a < ((T0.setVm vm₁).setVm vm₂).heap.size := (Array.getElem?_eq_some_iff.mp hcell).1
  have hU := heapAt_setCell_self (s := (T0.setVm vm₁).setVm vm₂) (plainBareV T.toThrowableT (freshCell P1.m.cls kX) a u0 sen msg) hlt
  refine ⟨_, st1 _ (fun acts => ?_), hrun, hended, hWU, hsame.weaken (fun y hy hlt' => ?_) (Nat.le_refl _) (Nat.le_refl _), _, hU, rfl, hfound⟩
  · rw [doInvoke_state]
    exact st2 _ hwalk
  · rcases List.mem_append.mp hy with h1 | h1
    · exact h1
    · exfalso
      have hb : y.base = a := by
        simp only [List.mem_cons, List.not_mem_nil, or_false] at h1
        rcases h1 with rfl | rfl | rfl | rfl | rfl <;> rfl
      rw [hb] at hlt'
      exact Nat.not_lt.mpr hnew hlt'
end Nse
section NseX
/-- what a throw of cls in class own needs of the tables, its constructor's link at ix -/
def ThrowOKX (own cls : String) (ik ic ix : Nat) (rx : ByteArray) : Prop := Bundle.fit cls = true ∧ (∀ n ∈ xnames, Bundle.fit n = true) ∧ Cond.classLink own ik cls ∈ xall ∧ Cond.initialized cls ∈ xall ∧ (∀ w ∈ (nse_all own ic cls ix rx xnames).filter vx_no, w ∈ xall) ∧ Cond.instanceMethod (Bundle.initS cls) ∈ xall ∧ Cond.code (Bundle.initS cls) rx 2 none ∈ xall ∧ Cond.instantiable cls 6 ∈ xall
  ∧ decode rx 0 = .ok (.aload_n 0, 1) ∧ decode rx 1 = .ok (.aload_n 1, 1) ∧ decode rx 2 = .ok (.invokespecial ix, 3) ∧ decode rx 5 = .ok (.return_, 1)
variable {G : Gx} {μ : Mth} {d gc gs pc : Nat} {lo : List (Nat × Value)} {st : List Value} {w : Wd} {Q : XRes → Wd → Prop}
set_option maxHeartbeats 2000000 in
theorem X_throwSWX {cls text : String} {ik is ic ix : Nat} {rx : ByteArray} (ok : ThrowOKX μ.1 cls ik ic ix rx) (hstr : (μ.1, is, text) ∈ xstrs) (hh : μ.2.2.2.2.2 = [])
    (d0 : decode μ.2.2.1 pc = .ok (.new ik, 3)) (d3 : decode μ.2.2.1 (pc + 3) = .ok (.dup, 1)) (d4 : decode μ.2.2.1 (pc + 4) = .ok (.ldc_w is, 3)) (d7 : decode μ.2.2.1 (pc + 7) = .ok (.invokespecial ic, 3)) (d10 : decode μ.2.2.1 (pc + 10) = .ok (.athrow, 1))
    (hr : (st.map fun v => v.category).sum ≤ 8) (hdd : 6 ≤ d) (hgc : 1 ≤ gc) (hgs : 6 ≤ gs) (hQ : Q (.inr cls) w) : XJ G μ d gc gs pc lo st w Q := by
  intro p e R s m args below meth c hc mc ms H locs cells slots ls h1 h2 h3 h4 hw hS hl T hT X
  obtain ⟨sa, hsa⟩ := hc.1.2.2.2.1 _ hstr
  have hts := hc.2.2.2.2.2.1
  have hfr := hc.2.2.2.2.2.2.2.2.2.1
  have hlc := hc.2.2.2.2.2.2.2.2.2.2.1
  obtain ⟨k1, k2, k3, k4, k5, k6, k7, k8, x0, x1, x2, x5⟩ := ok
  have htr : e.platform.stackTraces = false := (show e.platform.stackTraces = G.1.stackTraces by rw [X.admits.platform]).trans hc.1.2.2.2.2.2.2.1
  have Y := vx_rebase X (R' := { frames := R.frames, locals := R.locals, cells := 1, slots := 6 }) (Nat.le_refl _) (Nat.le_refl _) (by show cells + 1 ≤ R.cells; omega) (by show slots + 6 ≤ R.slots; omega)
  obtain ⟨s', hA⟩ : ∃ z, z = (T.setVm s.vm).setFrames (.invoking m args :: below) := ⟨_, rfl⟩
  rw [← hA] at Y
  have hvm : s'.vm = s.vm := by rw [hA]; rfl
  have hhp : s'.heap = H := by rw [hA]; exact hT
  have hW0 : s.WarmedH s'.vm := by rw [hvm]; exact State.WarmedH.refl s
  have hall' : ∀ w ∈ xall, w.before args s' = true := fun w hw => xgood_moved hvm.symm w (List.mem_filter.mp hw).2 (hts w hw)
  have hU' : vx_Zq Bundle.tN "UNASSIGNED_STACK" Bundle.steD G.2.2.2.1 s' s'.heap := by rw [hhp]; exact vx_Zq.moved hW0.alike (hc.1.2.1.kept hS.2.1)
  have hN' : vx_Zq Bundle.tN "SUPPRESSED_SENTINEL" Bundle.listD G.2.2.2.1 s' s'.heap := by rw [hhp]; exact vx_Zq.moved hW0.alike (hc.1.2.2.1.kept hS.2.1)
  have h : ∀ w ∈ nse_all μ.1 ic cls ix rx xnames, w.before args s' = true := vx_own (fun w hw => hall' w (k5 w hw)) (vx_isRefq hU'.1) (vx_isRefq hN'.1) hU'.2.word hN'.2.word
  have hown' : s'.vm.findClass μ.1 = some m.cls := by rw [hvm]; exact hc.2.2.2.2.1
  obtain ⟨vm₁, cX, kX, hfX, hkX, -, -, X₁, st1⟩ := Y.newCold hc.2.1 (own := μ.1) (C := cls) (index := ik) (n := 6) hown' (hall' _ k3) (hall' _ k8) (hall' _ k4)
    (g := F0 m pc ls st) rfl (by rw [hc.2.2.1]; exact d0) (Nat.le_refl _) (Nat.le_refl _)
  generalize hT1 : (T.setVm vm₁).pushCell { cls := cX, slots := kX.instanceTypes.map defaultValue, vm := .none } = T1 at X₁ st1
  have hcat : (Value.ref T.heap.size).category = 1 := rfl
  have hcellA : T1.heap[T.heap.size]? = some (freshCell cX kX) := by rw [← hT1]; exact State.heap_pushCell_size _ _
  have d3' : decode c.code (pc + 3) = .ok (.dup, 1) := by rw [hc.2.2.1]; exact d3
  have d4' : decode c.code (pc + 4) = .ok (.ldc_w is, 3) := by rw [hc.2.2.1]; exact d4
  have hstr' : vk_R μ.1 is text sa s' := vk_R.warm hW0 hsa
  have hsize : ls.size = c.maxLocals := hl.1.trans hc.2.2.2.1.symm
  have hlocks := hc.2.2.2.2.2.2.2.1
  obtain ⟨U, hsteps, hrun, hend, hW, hsame, ce, hce, hcv, hccl⟩ := nse_ctor X₁ hc.2.1 htr (own := μ.1) (cls := cls) (names := xnames) (ic := ic) x0 x1 x2 x5 hown' k1 k2 h (hall' _ k6) (hall' _ k7) (fun x hx => nomatch hx) hfX hkX hcellA (by rw [hhp, hT]; exact Nat.le_refl _) (msg := .ref sa) rfl
    (g := { method := m, pc := pc + 7, locals := ls, stack := .ref sa :: .ref T.heap.size :: .ref T.heap.size :: st, locked := none }) rfl hsize rfl rfl (rest := st) rfl
    (by rw [hc.2.2.1]; exact d7) (by rw [hc.2.2.1]; exact d10) (fun x hx => by rw [hc.2.2.2.2.2.2.2.2.2.2.2, hh] at hx; cases hx) (by show 2 + 3 < R.frames; omega) (by
      have hz : 2 * JFrame.monitorRoom { method := m, pc := pc + 7, locals := ls, stack := .ref sa :: .ref T.heap.size :: .ref T.heap.size :: st, locked := none } = 0 := rfl
      rw [hz]
      simp only [List.map_cons, List.sum_cons, hcat]
      show 0 + (1 + _) + (13 * (2 + 1) + 42) ≤ R.locals
      omega) hlocks
  obtain ⟨f1, f2⟩ := vx_frame hsame
  rw [hhp] at f1 f2
  have hWs : s.WarmedH U.vm := State.WarmedH.trans hW0 hW
  have hcl : s.vm.findClass cls = some ce.cls := by
    rw [hvm] at hccl
    exact hccl
  have hall : s.sameButNew ({ U with vm := s.vm } : State) locs mc ms := by
    subst hA
    obtain ⟨e1, e2⟩ := hsame
    rw [State.setFrames_setFrames] at e1
    have h2 : (T.setVm s.vm).sameButNew ({ U with vm := s.vm } : State) [] (0 + 1) (0 + 6) := ⟨e1, e2⟩
    have h3 := X.same.trans h2
    rw [List.append_nil] at h3
    exact h3.mono (by omega) (by omega)
  refine ⟨U, ?_, .threw T.heap.size, hrun, hend, Or.inr ⟨T.heap.size, rfl, cls, ce, locs, X_later hQ hw hS f1 (fun q hq => f2 q hq (fun z hz => nomatch hz)), hce, hcv, hcl, hWs, hall, hS.2.2⟩⟩
  refine st1 _ ?_
  show Steps p.tables e below (T1.setTop { method := m, pc := pc + 3, locals := ls, stack := .ref T.heap.size :: st, locked := none }) _
  have hexec := hc.2.1
  jvm_step X₁.here [X₁.here.top, hexec, d3', Value.category]
  exact X₁.ldcStringW hexec (own := μ.1) (text := text) (index := is) (a := sa) hown' hstr'.1 hstr'.2
    (g := { method := m, pc := pc + 4, locals := ls, stack := .ref T.heap.size :: .ref T.heap.size :: st, locked := none }) rfl d4' _ hsteps
end NseX
section LdcWF
variable {G : Gx} {μ : Mth} {d gc gs pc : Nat} {lo : List (Nat × Value)} {st : List Value} {w : Wd} {Q : XRes → Wd → Prop}
theorem X_ldcfw {index : Nat} {v : UInt32} (hd : decode μ.2.2.1 pc = .ok (.ldc_w index, 3)) (hc0 : Cond.constantFloat μ.1 index v ∈ xall) (kk : XJ G μ d gc gs (pc + 3) lo (.float v :: st) w Q) : XJ G μ d gc gs pc lo st w Q := by
  refine XJ.stepG (fun {p e R s m args below meth c H locs cells slots QQ} hc hw hS ls k1 => ?_) kk
  intro T hT X
  obtain ⟨t, a, b⟩ := k1 T hT X
  refine ⟨t, ?_, b⟩
  have hexec := hc.2.1
  have hdg : decode c.code pc = .ok (.ldc_w index, 3) := by rw [hc.2.2.1]; exact hd
  obtain ⟨k, cf, hk, hcf, hcp⟩ := Cond.constantFloat_spec hc.2.2.2.2.1 (hc.2.2.2.2.2.1 _ hc0)
  obtain ⟨k', hk', he⟩ := X.warmed.alike.2.2 _ _ hk
  jvm_step X.here [hexec, hdg, ldc_w.wp_float (s := T) (f := F0 m pc ls st) X.here.top hk' (by rw [he]; exact hcf) hcp]
  exact a
end LdcWF
end
