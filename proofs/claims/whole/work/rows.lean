section
-- ===== PART A: goes FIRST, ahead of the names: the tables' words, and 'selects' of the private methods out of them =====
/-- a private method of a class that the tables say can be made, by its rows of tables_1 -/
def lw_okq (q : MethodName × Nat) : Prop := (q.1.cls ≠ "java/lang/invoke/MethodHandle" ∧ q.1.cls ≠ "java/lang/invoke/VarHandle") ∧ Cond.instantiable q.1.cls q.2 ∈ tables_1 ∧ Cond.privateMethod q.1 ∈ tables_1 ∧ Cond.instanceMethod q.1 ∈ tables_1
theorem lw_p0 : lw_okq (⟨"Pointsbook", "knownGood", "(I)LPointsbook$Good;"⟩, 19) := ⟨⟨by decide +kernel, by decide +kernel⟩, List.mem_of_getElem? (i := 18) (by decide +kernel), List.mem_of_getElem? (i := 152) (by decide +kernel), List.mem_of_getElem? (i := 153) (by decide +kernel)⟩
theorem lw_p1 : lw_okq (⟨"java/lang/Throwable", "fillInStackTrace", "(I)Ljava/lang/Throwable;"⟩, 6) := ⟨⟨by decide +kernel, by decide +kernel⟩, List.mem_of_getElem? (i := 194) (by decide +kernel), List.mem_of_getElem? (i := 192) (by decide +kernel), List.mem_of_getElem? (i := 193) (by decide +kernel)⟩
theorem lw_p2 : lw_okq (⟨"Pointsbook", "liesInShops", "(I)I"⟩, 19) := ⟨⟨by decide +kernel, by decide +kernel⟩, List.mem_of_getElem? (i := 18) (by decide +kernel), List.mem_of_getElem? (i := 281) (by decide +kernel), List.mem_of_getElem? (i := 282) (by decide +kernel)⟩
theorem lw_p3 : lw_okq (⟨"Pointsbook", "knownShop", "(I)LPointsbook$Shop;"⟩, 19) := ⟨⟨by decide +kernel, by decide +kernel⟩, List.mem_of_getElem? (i := 18) (by decide +kernel), List.mem_of_getElem? (i := 293) (by decide +kernel), List.mem_of_getElem? (i := 294) (by decide +kernel)⟩
theorem lw_p4 : lw_okq (⟨"Pointsbook", "knownPerson", "(I)LPointsbook$Person;"⟩, 19) := ⟨⟨by decide +kernel, by decide +kernel⟩, List.mem_of_getElem? (i := 18) (by decide +kernel), List.mem_of_getElem? (i := 374) (by decide +kernel), List.mem_of_getElem? (i := 375) (by decide +kernel)⟩
theorem lw_p5 : lw_okq (⟨"Pointsbook", "pointsLeft", "(LPointsbook$Person;)I"⟩, 19) := ⟨⟨by decide +kernel, by decide +kernel⟩, List.mem_of_getElem? (i := 18) (by decide +kernel), List.mem_of_getElem? (i := 411) (by decide +kernel), List.mem_of_getElem? (i := 412) (by decide +kernel)⟩
theorem lw_p6 : lw_okq (⟨"Pointsbook", "gramsLeft", "(LPointsbook$Person;I)I"⟩, 19) := ⟨⟨by decide +kernel, by decide +kernel⟩, List.mem_of_getElem? (i := 18) (by decide +kernel), List.mem_of_getElem? (i := 440) (by decide +kernel), List.mem_of_getElem? (i := 441) (by decide +kernel)⟩
theorem lw_p7 : lw_okq (⟨"Pointsbook", "knownDepot", "(I)LPointsbook$Depot;"⟩, 19) := ⟨⟨by decide +kernel, by decide +kernel⟩, List.mem_of_getElem? (i := 18) (by decide +kernel), List.mem_of_getElem? (i := 471) (by decide +kernel), List.mem_of_getElem? (i := 472) (by decide +kernel)⟩
theorem lw_p8 : lw_okq (⟨"Pointsbook", "bringTo", "(LPointsbook$Depot;II)V"⟩, 19) := ⟨⟨by decide +kernel, by decide +kernel⟩, List.mem_of_getElem? (i := 18) (by decide +kernel), List.mem_of_getElem? (i := 559) (by decide +kernel), List.mem_of_getElem? (i := 560) (by decide +kernel)⟩
theorem lw_p9 : lw_okq (⟨"Pointsbook", "requireAllowed", "(LPointsbook$Person;LPointsbook$Shop;II)V"⟩, 19) := ⟨⟨by decide +kernel, by decide +kernel⟩, List.mem_of_getElem? (i := 18) (by decide +kernel), List.mem_of_getElem? (i := 589) (by decide +kernel), List.mem_of_getElem? (i := 590) (by decide +kernel)⟩
theorem lw_p10 : lw_okq (⟨"Pointsbook", "eat", "(LPointsbook$Person;LPointsbook$Good;I)V"⟩, 19) := ⟨⟨by decide +kernel, by decide +kernel⟩, List.mem_of_getElem? (i := 18) (by decide +kernel), List.mem_of_getElem? (i := 600) (by decide +kernel), List.mem_of_getElem? (i := 601) (by decide +kernel)⟩
theorem lw_p11 : lw_okq (⟨"Pointsbook", "markInBook", "(LPointsbook$Person;II)I"⟩, 19) := ⟨⟨by decide +kernel, by decide +kernel⟩, List.mem_of_getElem? (i := 18) (by decide +kernel), List.mem_of_getElem? (i := 604) (by decide +kernel), List.mem_of_getElem? (i := 605) (by decide +kernel)⟩
theorem lw_p12 : lw_okq (⟨"Pointsbook", "knownFarm", "(I)LPointsbook$Farm;"⟩, 19) := ⟨⟨by decide +kernel, by decide +kernel⟩, List.mem_of_getElem? (i := 18) (by decide +kernel), List.mem_of_getElem? (i := 725) (by decide +kernel), List.mem_of_getElem? (i := 726) (by decide +kernel)⟩
theorem lw_p13 : lw_okq (⟨"Pointsbook", "closeFarms", "()V"⟩, 19) := ⟨⟨by decide +kernel, by decide +kernel⟩, List.mem_of_getElem? (i := 18) (by decide +kernel), List.mem_of_getElem? (i := 745) (by decide +kernel), List.mem_of_getElem? (i := 746) (by decide +kernel)⟩
theorem lw_p14 : lw_okq (⟨"Pointsbook", "closePeople", "()V"⟩, 19) := ⟨⟨by decide +kernel, by decide +kernel⟩, List.mem_of_getElem? (i := 18) (by decide +kernel), List.mem_of_getElem? (i := 749) (by decide +kernel), List.mem_of_getElem? (i := 750) (by decide +kernel)⟩
theorem lw_p15 : lw_okq (⟨"Pointsbook", "closePerson", "(LPointsbook$Person;)V"⟩, 19) := ⟨⟨by decide +kernel, by decide +kernel⟩, List.mem_of_getElem? (i := 18) (by decide +kernel), List.mem_of_getElem? (i := 753) (by decide +kernel), List.mem_of_getElem? (i := 754) (by decide +kernel)⟩
def lw_privs_1 : List (MethodName × Nat) := [(⟨"Pointsbook", "knownGood", "(I)LPointsbook$Good;"⟩, 19), (⟨"java/lang/Throwable", "fillInStackTrace", "(I)Ljava/lang/Throwable;"⟩, 6), (⟨"Pointsbook", "liesInShops", "(I)I"⟩, 19), (⟨"Pointsbook", "knownShop", "(I)LPointsbook$Shop;"⟩, 19), (⟨"Pointsbook", "knownPerson", "(I)LPointsbook$Person;"⟩, 19), (⟨"Pointsbook", "pointsLeft", "(LPointsbook$Person;)I"⟩, 19), (⟨"Pointsbook", "gramsLeft", "(LPointsbook$Person;I)I"⟩, 19), (⟨"Pointsbook", "knownDepot", "(I)LPointsbook$Depot;"⟩, 19), (⟨"Pointsbook", "bringTo", "(LPointsbook$Depot;II)V"⟩, 19), (⟨"Pointsbook", "requireAllowed", "(LPointsbook$Person;LPointsbook$Shop;II)V"⟩, 19), (⟨"Pointsbook", "eat", "(LPointsbook$Person;LPointsbook$Good;I)V"⟩, 19), (⟨"Pointsbook", "markInBook", "(LPointsbook$Person;II)I"⟩, 19), (⟨"Pointsbook", "knownFarm", "(I)LPointsbook$Farm;"⟩, 19), (⟨"Pointsbook", "closeFarms", "()V"⟩, 19), (⟨"Pointsbook", "closePeople", "()V"⟩, 19), (⟨"Pointsbook", "closePerson", "(LPointsbook$Person;)V"⟩, 19)]
theorem lw_r1 : ∀ q ∈ lw_privs_1, lw_okq q := List.forall_mem_cons.mpr ⟨lw_p0, List.forall_mem_cons.mpr ⟨lw_p1, List.forall_mem_cons.mpr ⟨lw_p2, List.forall_mem_cons.mpr ⟨lw_p3, List.forall_mem_cons.mpr ⟨lw_p4, List.forall_mem_cons.mpr ⟨lw_p5, List.forall_mem_cons.mpr ⟨lw_p6, List.forall_mem_cons.mpr ⟨lw_p7, List.forall_mem_cons.mpr ⟨lw_p8, List.forall_mem_cons.mpr ⟨lw_p9, List.forall_mem_cons.mpr ⟨lw_p10, List.forall_mem_cons.mpr ⟨lw_p11, List.forall_mem_cons.mpr ⟨lw_p12, List.forall_mem_cons.mpr ⟨lw_p13, List.forall_mem_cons.mpr ⟨lw_p14, List.forall_mem_cons.mpr ⟨lw_p15, fun _ h => absurd h List.not_mem_nil⟩⟩⟩⟩⟩⟩⟩⟩⟩⟩⟩⟩⟩⟩⟩⟩
theorem lw_p16 : lw_okq (⟨"Pointsbook", "nameOfFall", "(LPointsbook$Person;)I"⟩, 19) := ⟨⟨by decide +kernel, by decide +kernel⟩, List.mem_of_getElem? (i := 18) (by decide +kernel), List.mem_of_getElem? (i := 757) (by decide +kernel), List.mem_of_getElem? (i := 758) (by decide +kernel)⟩
theorem lw_p17 : lw_okq (⟨"Pointsbook", "repriceGoods", "()V"⟩, 19) := ⟨⟨by decide +kernel, by decide +kernel⟩, List.mem_of_getElem? (i := 18) (by decide +kernel), List.mem_of_getElem? (i := 761) (by decide +kernel), List.mem_of_getElem? (i := 762) (by decide +kernel)⟩
theorem lw_p18 : lw_okq (⟨"Pointsbook", "repriceGood", "(LPointsbook$Good;I)V"⟩, 19) := ⟨⟨by decide +kernel, by decide +kernel⟩, List.mem_of_getElem? (i := 18) (by decide +kernel), List.mem_of_getElem? (i := 765) (by decide +kernel), List.mem_of_getElem? (i := 766) (by decide +kernel)⟩
theorem lw_p19 : lw_okq (⟨"Pointsbook", "openNewMonth", "()V"⟩, 19) := ⟨⟨by decide +kernel, by decide +kernel⟩, List.mem_of_getElem? (i := 18) (by decide +kernel), List.mem_of_getElem? (i := 769) (by decide +kernel), List.mem_of_getElem? (i := 770) (by decide +kernel)⟩
theorem lw_p20 : lw_okq (⟨"Pointsbook", "leastFor", "(I)I"⟩, 19) := ⟨⟨by decide +kernel, by decide +kernel⟩, List.mem_of_getElem? (i := 18) (by decide +kernel), List.mem_of_getElem? (i := 784) (by decide +kernel), List.mem_of_getElem? (i := 785) (by decide +kernel)⟩
theorem lw_p21 : lw_okq (⟨"Pointsbook", "gramsInDepots", "()I"⟩, 19) := ⟨⟨by decide +kernel, by decide +kernel⟩, List.mem_of_getElem? (i := 18) (by decide +kernel), List.mem_of_getElem? (i := 795) (by decide +kernel), List.mem_of_getElem? (i := 796) (by decide +kernel)⟩
theorem lw_p22 : lw_okq (⟨"Pointsbook", "gramsInShops", "()I"⟩, 19) := ⟨⟨by decide +kernel, by decide +kernel⟩, List.mem_of_getElem? (i := 18) (by decide +kernel), List.mem_of_getElem? (i := 799) (by decide +kernel), List.mem_of_getElem? (i := 800) (by decide +kernel)⟩
theorem lw_p23 : lw_okq (⟨"Pointsbook", "gramsOnBlackMarket", "()I"⟩, 19) := ⟨⟨by decide +kernel, by decide +kernel⟩, List.mem_of_getElem? (i := 18) (by decide +kernel), List.mem_of_getElem? (i := 803) (by decide +kernel), List.mem_of_getElem? (i := 804) (by decide +kernel)⟩
theorem lw_p24 : lw_okq (⟨"Pointsbook", "peopleAlive", "()I"⟩, 19) := ⟨⟨by decide +kernel, by decide +kernel⟩, List.mem_of_getElem? (i := 18) (by decide +kernel), List.mem_of_getElem? (i := 807) (by decide +kernel), List.mem_of_getElem? (i := 808) (by decide +kernel)⟩
theorem lw_p25 : lw_okq (⟨"PointsbookModel", "fails", "(ZI)Z"⟩, 47) := ⟨⟨by decide +kernel, by decide +kernel⟩, List.mem_of_getElem? (i := 811) (by decide +kernel), List.mem_of_getElem? (i := 974) (by decide +kernel), List.mem_of_getElem? (i := 975) (by decide +kernel)⟩
theorem lw_p26 : lw_okq (⟨"PointsbookModel", "lies", "(I)I"⟩, 47) := ⟨⟨by decide +kernel, by decide +kernel⟩, List.mem_of_getElem? (i := 811) (by decide +kernel), List.mem_of_getElem? (i := 998) (by decide +kernel), List.mem_of_getElem? (i := 999) (by decide +kernel)⟩
theorem lw_p27 : lw_okq (⟨"PointsbookModel", "isShop", "(I)Z"⟩, 47) := ⟨⟨by decide +kernel, by decide +kernel⟩, List.mem_of_getElem? (i := 811) (by decide +kernel), List.mem_of_getElem? (i := 1006) (by decide +kernel), List.mem_of_getElem? (i := 1007) (by decide +kernel)⟩
theorem lw_p28 : lw_okq (⟨"PointsbookModel", "isOne", "(I)Z"⟩, 47) := ⟨⟨by decide +kernel, by decide +kernel⟩, List.mem_of_getElem? (i := 811) (by decide +kernel), List.mem_of_getElem? (i := 1014) (by decide +kernel), List.mem_of_getElem? (i := 1015) (by decide +kernel)⟩
theorem lw_p29 : lw_okq (⟨"PointsbookModel", "isDead", "(I)Z"⟩, 47) := ⟨⟨by decide +kernel, by decide +kernel⟩, List.mem_of_getElem? (i := 811) (by decide +kernel), List.mem_of_getElem? (i := 1018) (by decide +kernel), List.mem_of_getElem? (i := 1019) (by decide +kernel)⟩
theorem lw_p30 : lw_okq (⟨"PointsbookModel", "hasBook", "(I)Z"⟩, 47) := ⟨⟨by decide +kernel, by decide +kernel⟩, List.mem_of_getElem? (i := 811) (by decide +kernel), List.mem_of_getElem? (i := 1030) (by decide +kernel), List.mem_of_getElem? (i := 1031) (by decide +kernel)⟩
theorem lw_p31 : lw_okq (⟨"PointsbookModel", "pointsOf", "(I)I"⟩, 47) := ⟨⟨by decide +kernel, by decide +kernel⟩, List.mem_of_getElem? (i := 811) (by decide +kernel), List.mem_of_getElem? (i := 1034) (by decide +kernel), List.mem_of_getElem? (i := 1035) (by decide +kernel)⟩
def lw_privs_2 : List (MethodName × Nat) := [(⟨"Pointsbook", "nameOfFall", "(LPointsbook$Person;)I"⟩, 19), (⟨"Pointsbook", "repriceGoods", "()V"⟩, 19), (⟨"Pointsbook", "repriceGood", "(LPointsbook$Good;I)V"⟩, 19), (⟨"Pointsbook", "openNewMonth", "()V"⟩, 19), (⟨"Pointsbook", "leastFor", "(I)I"⟩, 19), (⟨"Pointsbook", "gramsInDepots", "()I"⟩, 19), (⟨"Pointsbook", "gramsInShops", "()I"⟩, 19), (⟨"Pointsbook", "gramsOnBlackMarket", "()I"⟩, 19), (⟨"Pointsbook", "peopleAlive", "()I"⟩, 19), (⟨"PointsbookModel", "fails", "(ZI)Z"⟩, 47), (⟨"PointsbookModel", "lies", "(I)I"⟩, 47), (⟨"PointsbookModel", "isShop", "(I)Z"⟩, 47), (⟨"PointsbookModel", "isOne", "(I)Z"⟩, 47), (⟨"PointsbookModel", "isDead", "(I)Z"⟩, 47), (⟨"PointsbookModel", "hasBook", "(I)Z"⟩, 47), (⟨"PointsbookModel", "pointsOf", "(I)I"⟩, 47)]
theorem lw_r2 : ∀ q ∈ lw_privs_2, lw_okq q := List.forall_mem_cons.mpr ⟨lw_p16, List.forall_mem_cons.mpr ⟨lw_p17, List.forall_mem_cons.mpr ⟨lw_p18, List.forall_mem_cons.mpr ⟨lw_p19, List.forall_mem_cons.mpr ⟨lw_p20, List.forall_mem_cons.mpr ⟨lw_p21, List.forall_mem_cons.mpr ⟨lw_p22, List.forall_mem_cons.mpr ⟨lw_p23, List.forall_mem_cons.mpr ⟨lw_p24, List.forall_mem_cons.mpr ⟨lw_p25, List.forall_mem_cons.mpr ⟨lw_p26, List.forall_mem_cons.mpr ⟨lw_p27, List.forall_mem_cons.mpr ⟨lw_p28, List.forall_mem_cons.mpr ⟨lw_p29, List.forall_mem_cons.mpr ⟨lw_p30, List.forall_mem_cons.mpr ⟨lw_p31, fun _ h => absurd h List.not_mem_nil⟩⟩⟩⟩⟩⟩⟩⟩⟩⟩⟩⟩⟩⟩⟩⟩
theorem lw_p32 : lw_okq (⟨"PointsbookModel", "leftOf", "(II)I"⟩, 47) := ⟨⟨by decide +kernel, by decide +kernel⟩, List.mem_of_getElem? (i := 811) (by decide +kernel), List.mem_of_getElem? (i := 1050) (by decide +kernel), List.mem_of_getElem? (i := 1051) (by decide +kernel)⟩
theorem lw_p33 : lw_okq (⟨"PointsbookModel", "share", "(II)I"⟩, 47) := ⟨⟨by decide +kernel, by decide +kernel⟩, List.mem_of_getElem? (i := 811) (by decide +kernel), List.mem_of_getElem? (i := 1054) (by decide +kernel), List.mem_of_getElem? (i := 1055) (by decide +kernel)⟩
theorem lw_p34 : lw_okq (⟨"PointsbookModel", "isDepot", "(I)Z"⟩, 47) := ⟨⟨by decide +kernel, by decide +kernel⟩, List.mem_of_getElem? (i := 811) (by decide +kernel), List.mem_of_getElem? (i := 1069) (by decide +kernel), List.mem_of_getElem? (i := 1070) (by decide +kernel)⟩
theorem lw_p35 : lw_okq (⟨"PointsbookModel", "eat", "(III)V"⟩, 47) := ⟨⟨by decide +kernel, by decide +kernel⟩, List.mem_of_getElem? (i := 811) (by decide +kernel), List.mem_of_getElem? (i := 1094) (by decide +kernel), List.mem_of_getElem? (i := 1095) (by decide +kernel)⟩
theorem lw_p36 : lw_okq (⟨"PointsbookModel", "lacking", "(III)I"⟩, 47) := ⟨⟨by decide +kernel, by decide +kernel⟩, List.mem_of_getElem? (i := 811) (by decide +kernel), List.mem_of_getElem? (i := 1102) (by decide +kernel), List.mem_of_getElem? (i := 1103) (by decide +kernel)⟩
theorem lw_p37 : lw_okq (⟨"PointsbookModel", "supply", "(III)V"⟩, 47) := ⟨⟨by decide +kernel, by decide +kernel⟩, List.mem_of_getElem? (i := 811) (by decide +kernel), List.mem_of_getElem? (i := 1109) (by decide +kernel), List.mem_of_getElem? (i := 1110) (by decide +kernel)⟩
theorem lw_p38 : lw_okq (⟨"PointsbookModel", "age", "(I)V"⟩, 47) := ⟨⟨by decide +kernel, by decide +kernel⟩, List.mem_of_getElem? (i := 811) (by decide +kernel), List.mem_of_getElem? (i := 1161) (by decide +kernel), List.mem_of_getElem? (i := 1162) (by decide +kernel)⟩
theorem lw_p39 : lw_okq (⟨"PointsbookModel", "lacked", "(I)Z"⟩, 47) := ⟨⟨by decide +kernel, by decide +kernel⟩, List.mem_of_getElem? (i := 811) (by decide +kernel), List.mem_of_getElem? (i := 1165) (by decide +kernel), List.mem_of_getElem? (i := 1166) (by decide +kernel)⟩
theorem lw_p40 : lw_okq (⟨"PointsbookModel", "reprice", "(I)V"⟩, 47) := ⟨⟨by decide +kernel, by decide +kernel⟩, List.mem_of_getElem? (i := 811) (by decide +kernel), List.mem_of_getElem? (i := 1169) (by decide +kernel), List.mem_of_getElem? (i := 1170) (by decide +kernel)⟩
theorem lw_p41 : lw_okq (⟨"PointsbookModel", "over", "(Z)I"⟩, 47) := ⟨⟨by decide +kernel, by decide +kernel⟩, List.mem_of_getElem? (i := 811) (by decide +kernel), List.mem_of_getElem? (i := 1182) (by decide +kernel), List.mem_of_getElem? (i := 1183) (by decide +kernel)⟩
def lw_privs_3 : List (MethodName × Nat) := [(⟨"PointsbookModel", "leftOf", "(II)I"⟩, 47), (⟨"PointsbookModel", "share", "(II)I"⟩, 47), (⟨"PointsbookModel", "isDepot", "(I)Z"⟩, 47), (⟨"PointsbookModel", "eat", "(III)V"⟩, 47), (⟨"PointsbookModel", "lacking", "(III)I"⟩, 47), (⟨"PointsbookModel", "supply", "(III)V"⟩, 47), (⟨"PointsbookModel", "age", "(I)V"⟩, 47), (⟨"PointsbookModel", "lacked", "(I)Z"⟩, 47), (⟨"PointsbookModel", "reprice", "(I)V"⟩, 47), (⟨"PointsbookModel", "over", "(Z)I"⟩, 47)]
theorem lw_r3 : ∀ q ∈ lw_privs_3, lw_okq q := List.forall_mem_cons.mpr ⟨lw_p32, List.forall_mem_cons.mpr ⟨lw_p33, List.forall_mem_cons.mpr ⟨lw_p34, List.forall_mem_cons.mpr ⟨lw_p35, List.forall_mem_cons.mpr ⟨lw_p36, List.forall_mem_cons.mpr ⟨lw_p37, List.forall_mem_cons.mpr ⟨lw_p38, List.forall_mem_cons.mpr ⟨lw_p39, List.forall_mem_cons.mpr ⟨lw_p40, List.forall_mem_cons.mpr ⟨lw_p41, fun _ h => absurd h List.not_mem_nil⟩⟩⟩⟩⟩⟩⟩⟩⟩⟩
def lw_privs : List (MethodName × Nat) := lw_privs_1 ++ (lw_privs_2 ++ (lw_privs_3))
def lw_tbl : List Cond := k2_sels lw_privs ++ tables_1
theorem lw_privs_ok : ∀ q ∈ lw_privs, lw_okq q := by
  show ∀ q ∈ lw_privs_1 ++ (lw_privs_2 ++ (lw_privs_3)), lw_okq q
  exact List.forall_mem_append.mpr ⟨lw_r1, List.forall_mem_append.mpr ⟨lw_r2, lw_r3⟩⟩
/-! ===== BEGIN words of one list among another's, by their places ===== -/
theorem goodIn_r {big : List Cond} (ws : List Cond) (ps : List Nat) (hp : ws = ps.filterMap (fun i => big[i]?)) (h : ws.all goodWord = true) : GoodIn big ws := by
  intro w hw
  have h1 := List.all_eq_true.mp h w hw
  rw [hp] at hw
  obtain ⟨i, -, hi⟩ := List.mem_filterMap.mp hw
  have hm : w ∈ big := by first | exact List.mem_of_getElem? hi | exact List.getElem?_mem hi
  exact ⟨hm, good_of_word h1⟩
theorem goodIn_app {big a b : List Cond} (ha : GoodIn big a) (hb : GoodIn big b) : GoodIn big (a ++ b) := fun w h => (List.mem_append.mp h).elim (ha w) (hb w)
theorem goodIn_ca {big a b : List Cond} {c : Cond} (ha : GoodIn big (c :: a)) (hb : GoodIn big b) : GoodIn big (c :: (a ++ b)) := fun w h => (List.mem_cons.mp h).elim (fun e => ha w (List.mem_cons.mpr (Or.inl e))) (fun h => (List.mem_append.mp h).elim (fun h => ha w (List.mem_cons.mpr (Or.inr h))) (hb w))
theorem goodIn_sub {big ws : List Cond} (hm : ∀ w ∈ ws, w ∈ big) (h : ws.all goodWord = true) : GoodIn big ws := fun w hw => ⟨hm w hw, good_of_word (List.all_eq_true.mp h w hw)⟩
/-! ===== END ===== -/

/-! ===== BEGIN exceptions that leave a method, and their catching by the caller (launches without stack traces) ===== -/
section VXA
/-! The laws vx_back, vx_callV, vx_callS, vx_callSW, vx_throw0, vx_throwS follow proofs of the library, with one case more: JvmDerived/Free/Laws.lean (Back.of_free), Shelf42/LK1.lean (callV, callS), Shelf/KitTraced.lean (throwNew0V, throwNewS). -/
/-- where a method has thrown q: the class by its name, the cell, what was written, the world -/
def vx_T (XC : String → State → State → Prop) (st : State) (q : Addr) (t : State) (mc ms : Nat) (free : Addr → Prop) : Prop :=
  ∃ (E : String) (ce : Cell) (L : List Loc), XC E st t ∧ t.heap[q]? = some ce ∧ ce.vm = .none ∧ st.vm.findClass E = some ce.cls ∧ st.WarmedH t.vm ∧ st.sameButNew ({ t with vm := st.vm } : State) L mc ms ∧ ∀ z ∈ L, free z.base
def vx_Q (Qc : Array Value → State → Outcome → State → Prop) (XC : String → State → State → Prop) (mc ms : Nat) (free : Addr → Prop) : Array Value → State → Outcome → State → Prop := fun a st o t =>
  (Qc a st o t ∧ ∃ L, FrameEnd st o t L mc ms ∧ ∀ q ∈ L, free q.base) ∨ ∃ q, o = .threw q ∧ vx_T XC st q t mc ms free
/-- a callee that returns or throws -/
def vx_Met (l : Launch) (y : MethodName) (ws : List Cond) (rm : Room) (Pc : Array Value → State → Prop) (Qc : Array Value → State → Outcome → State → Prop) (XC : String → State → State → Prop) (mc ms : Nat) (free : Addr → Prop) : Prop :=
  MetFree l y (headSpec ws rm) Pc (fun _ _ _ _ _ => True) (vx_Q Qc XC mc ms free)
def vx_Post (XC : String → State → State → Prop) (mc ms : Nat) (free : Addr → Prop) : Pt → Array Value → Addr → Pt → Prop := fun A a q B =>
  ∃ (g : JFrame) (mk : MethodId) (t : State) (L : List Loc) (E : String) (ce : Cell), B.U.heap = t.heap ∧ B.U.vm = t.vm ∧ XC E (A.U.calling g mk a) t ∧ t.heap[q]? = some ce ∧ ce.vm = .none ∧ A.U.vm.findClass E = some ce.cls ∧ B.locs = A.locs ++ L ∧ (∀ z ∈ L, free z.base) ∧ B.cells = A.cells + mc ∧ B.slots = A.slots + ms
def vx_Back (l : Launch) (R : Room) (p : Program) (e : Env) (below : List Frame) (s : State) (sargs : Array Value) (y : MethodName) (len W9 : Nat)
    (Pre : Pt → Array Value → Prop) (Post : Pt → Array Value → Option Value → Pt → Prop) (PostX : Pt → Array Value → Addr → Pt → Prop) : Prop :=
  ∀ (m : MethodId) (meth : Method) (c : Code) (A : Pt) (g : JFrame) (ig : Instr) (mk : MethodId) (a : Array Value),
    Stand p l e R s m sargs below meth c A.U A.locs A.cells A.slots → g.method = m → g.locals.size = c.maxLocals → decode c.code g.pc = .ok (ig, len) →
    2 * g.monitorRoom + (g.stack.map fun v => v.category).sum ≤ W9 → A.U.methodNamed? y = some mk → Pre A a →
    (∃ (v : Option Value) (B : Pt), Stand p l e R s m sargs below meth c B.U B.locs B.cells B.slots ∧ Post A a v B ∧
      Steps p.tables e below (doInvoke e (A.U.setTop g) [] mk a).1 (B.U.setTop { g with pc := g.pc + len, stack := v.toList ++ g.stack })) ∨
    (∃ (q : Addr) (B : Pt), Stand p l e R s m sargs below meth c B.U B.locs B.cells B.slots ∧ PostX A a q B ∧
      Steps p.tables e below (doInvoke e (A.U.setTop g) [] mk a).1 ((B.U.setTop g).pushFrame (.throwing q)))
section Payer
variable {l : Launch} {R : Room} {p : Program} {e : Env} {below : List Frame} {s : State} {sargs : Array Value} {y : MethodName} {len W9 : Nat}
theorem vx_back {ws : List Cond} {rm : Room} {Pc : Array Value → State → Prop} {Qc : Array Value → State → Outcome → State → Prop} {XC : String → State → State → Prop} {mc ms : Nat} {free : Addr → Prop} {bytes : ByteArray} {maxL : Nat} {ret : Option FieldType}
    (hM : vx_Met l y ws rm Pc Qc XC mc ms free) (hblind : FrameBlind Pc) (hrc : rm.cells = mc) (hrs : rm.slots = ms)
    (hframes : rm.frames + 1 ≤ R.frames) (hlocals : W9 + (maxL + 11) + rm.locals ≤ R.locals)
    (hws : ∀ w ∈ ws, ∀ a' U, s.WarmedH U.vm → w.before a' U = true) (hcode : Cond.code y bytes maxL ret ∈ ws) (hinit : ∀ a' U, s.WarmedH U.vm → (Cond.initialized y.cls).before a' U = true) :
    vx_Back l R p e below s sargs y len W9 (PreOf R mc ms Pc) (PostOf Qc mc ms free) (vx_Post XC mc ms free) := by
  intro m meth c A g ig mk a X hg hsize hdg hW hn hp
  have h1 : (headSpec ws rm).pre.before a A.U = true := atoms_intro fun w hw => hws w hw _ _ X.warmed
  have h2 : (Cond.code y bytes maxL ret).before a A.U = true := hws _ hcode _ _ X.warmed
  have h3 : (Cond.initialized y.cls).before a A.U = true := hinit _ _ X.warmed
  have h4 : A.cells + (headSpec ws rm).room.cells ≤ R.cells := by rw [show (headSpec ws rm).room.cells = mc from hrc]; exact hp.1
  have h5 : A.slots + (headSpec ws rm).room.slots ≤ R.slots := by rw [show (headSpec ws rm).room.slots = ms from hrs]; exact hp.2.1
  have hPc : Pc a (A.U.calling g mk a) := hblind _ _ _ _ hp.2.2
  obtain ⟨U, Ls, c0, s0⟩ := A
  dsimp only [Pt.U, Pt.locs, Pt.cells, Pt.slots] at h1 h2 h3 h4 h5 X hn hPc ⊢
  obtain ⟨methY, cY, hmY, hcY, -, hlY, -, -, -, -⟩ := Cond.code_spec hn h2
  obtain ⟨kY, hkY, -⟩ := className_of_methodNamed hn
  have hinitY : kY.init = .initialized := Cond.initialized_spec (findClass_of_methodNamed hn) hkY h3
  have h : At U g.method c below := by rw [hg]; exact X.here
  have hlocals9 : W9 + (maxL + 11) + (headSpec ws rm).room.locals ≤ R.locals := hlocals
  have happ : (headSpec ws rm).appliesLoose y e.platform (U.calling g mk a) = true :=
    Spec.appliesLoose_calling (g := g) h hdg hn hkY hinitY
      (X.room_calling (g := g) (R' := (headSpec ws rm).room) hsize hmY hcY hframes (by rw [hlY]; omega) h4 h5) h1
  obtain ⟨mid, hmid⟩ := h.above
  have hfr : (U.setTop g).frames = (.java g :: mid) ++ below := by rw [State.frames_setTop' g h.top, hmid]; rfl
  obtain ⟨o, s₂, hsteps, -, hend, hq⟩ := Steps.callFree hM p X.admits X.cas X.clock (acts := []) hfr happ hPc trivial
  have hq' : vx_Q Qc XC mc ms free a (U.calling g mk a) o s₂ := hq
  rw [State.frames_setTop' g h.top] at hend
  obtain ⟨g₀, hg0⟩ := Option.isSome_iff_exists.mp h.top
  obtain ⟨r, hr⟩ := State.topJava?_eq_some.mp hg0
  have hr' : (({ U with heap := s₂.heap, slotsUsed := s₂.slotsUsed } : State).setVm s₂.vm).frames = .java g₀ :: r := hr
  rcases hq' with ⟨hqc, L, hfe, hL⟩ | ⟨q, rfl, E, ce, L, hx, hce, hcv, hcl, hW₂, hsm, hL⟩
  · obtain ⟨⟨v, rfl⟩, hW₂, e2, q2, q3, q4, q5, q6⟩ := id hfe
    have e3 : s₂ = ({ (U.calling g mk a).setFrames s₂.frames with heap := s₂.heap, slotsUsed := s₂.slotsUsed } : State).setVm s₂.vm := by
      have : s₂ = ({ s₂ with vm := (U.calling g mk a).vm } : State).setVm s₂.vm := rfl
      rw [e2] at this
      exact this
    obtain ⟨c₂, i₂, len₂, hc₂, hd₂, hf₂⟩ := hend
    have hW' : U.WarmedH s₂.vm := hW₂
    have hcc : c₂ = c := by
      have h1 : s₂.code? g.method = U.code? g.method := by
        rw [State.code?_eq, State.code?_eq, hW'.alike.method?]
      exact Option.some.inj (hc₂.symm.trans (h1.trans h.code))
    subst hcc
    have hlen : len₂ = len := by rw [hdg] at hd₂; cases hd₂; rfl
    subst hlen
    have hs₂ : s₂ = (({ U with heap := s₂.heap, slotsUsed := s₂.slotsUsed } : State).setVm s₂.vm).setTop { g with pc := g.pc + len₂, stack := v.toList ++ g.stack } := by
      refine e3.trans ?_
      rw [hf₂, State.calling_eq h.top, State.setFrames_setFrames, State.setTop_of_frames _ hr', hr]
      rfl
    have hsame : U.sameButNew ({ U with heap := s₂.heap, slotsUsed := s₂.slotsUsed } : State) L mc ms := by
      refine ⟨?_, q2, q3, q4, q5, q6⟩
      obtain ⟨t, ht, -⟩ := State.frames_cons hr
      show ({ U with heap := s₂.heap, slotsUsed := s₂.slotsUsed } : State) = { U.setFrames U.frames with heap := s₂.heap, slotsUsed := s₂.slotsUsed }
      rw [State.setFrames_self ht]
    subst hg
    refine Or.inl ⟨v, ⟨(({ U with heap := s₂.heap, slotsUsed := s₂.slotsUsed } : State).setVm s₂.vm), Ls ++ L, c0 + mc, s0 + ms⟩,
      ⟨X.admits, X.cas, X.clock, X.frames, X.room, X.hears, X.method, X.code, (X.here.setHeapUsed s₂.heap s₂.slotsUsed).setVm hW'.alike, X.tail, State.WarmedH.trans X.warmed hW', X.limits, X.bytes, X.same.trans (hsame.setVm s.vm)⟩,
      ⟨g, mk, s₂, L, rfl, rfl, hqc, rfl, hL, rfl, rfl⟩, ?_⟩
    show Steps p.tables e below _ ((({ U with heap := s₂.heap, slotsUsed := s₂.slotsUsed } : State).setVm s₂.vm).setTop { g with pc := g.pc + len₂, stack := v.toList ++ g.stack })
    rw [← hs₂]
    exact hsteps
  · obtain ⟨e2, q2, q3, q4, q5, q6⟩ := id hsm
    have e3 : s₂ = ({ (U.calling g mk a).setFrames s₂.frames with heap := s₂.heap, slotsUsed := s₂.slotsUsed } : State).setVm s₂.vm := by
      have : s₂ = ({ s₂ with vm := (U.calling g mk a).vm } : State).setVm s₂.vm := rfl
      rw [e2] at this
      exact this
    have hf₂ : s₂.frames = .throwing q :: .java g :: U.frames.tail := hend
    have hW' : U.WarmedH s₂.vm := hW₂
    have hs₂ : s₂ = ((({ U with heap := s₂.heap, slotsUsed := s₂.slotsUsed } : State).setVm s₂.vm).setTop g).pushFrame (.throwing q) := by
      refine e3.trans ?_
      rw [hf₂, State.calling_eq h.top, State.setFrames_setFrames, State.pushFrame, State.frames_setTop _ hr', State.setTop_of_frames _ hr', State.setFrames_setFrames, hr]
      rfl
    have hsame : U.sameButNew ({ U with heap := s₂.heap, slotsUsed := s₂.slotsUsed } : State) L mc ms := by
      refine ⟨?_, q2, q3, q4, q5, q6⟩
      obtain ⟨t, ht, -⟩ := State.frames_cons hr
      show ({ U with heap := s₂.heap, slotsUsed := s₂.slotsUsed } : State) = { U.setFrames U.frames with heap := s₂.heap, slotsUsed := s₂.slotsUsed }
      rw [State.setFrames_self ht]
    subst hg
    refine Or.inr ⟨q, ⟨(({ U with heap := s₂.heap, slotsUsed := s₂.slotsUsed } : State).setVm s₂.vm), Ls ++ L, c0 + mc, s0 + ms⟩,
      ⟨X.admits, X.cas, X.clock, X.frames, X.room, X.hears, X.method, X.code, (X.here.setHeapUsed s₂.heap s₂.slotsUsed).setVm hW'.alike, X.tail, State.WarmedH.trans X.warmed hW', X.limits, X.bytes, X.same.trans (hsame.setVm s.vm)⟩,
      ⟨g, mk, s₂, L, E, ce, rfl, rfl, hx, hce, hcv, hcl, rfl, hL, rfl, rfl⟩, ?_⟩
    show Steps p.tables e below _ (((({ U with heap := s₂.heap, slotsUsed := s₂.slotsUsed } : State).setVm s₂.vm).setTop g).pushFrame (.throwing q))
    rw [← hs₂]
    exact hsteps
end Payer
section Calls
variable {p : Program} {l : Launch} {e : Env} {R : Room} {s : State} {m : MethodId} {args : Array Value} {below : List Frame} {meth : Method} {c : Code} {T : State} {locs : List Loc} {cells slots : Nat}
theorem vx_callV (X : Stand p l e R s m args below meth c T locs cells slots) (hexec : p.tables.exec = Jvm.exec) {own C : String} {index : Nat} {y : MethodName} {bytes : ByteArray} {maxL : Nat} {ret : Option FieldType}
    (hown : s.vm.findClass own = some m.cls) (hlink : (Cond.methodLink own index y).before args s = true) (hinst : (Cond.instanceMethod y).before args s = true) (hsel : (Cond.selects C y y).before args s = true)
    (hcode : (Cond.code y bytes maxL ret).before args s = true) (hy : y.cls ≠ "java/lang/invoke/MethodHandle" ∧ y.cls ≠ "java/lang/invoke/VarHandle")
    {W9 : Nat} {Pre : Pt → Array Value → Prop} {Post : Pt → Array Value → Option Value → Pt → Prop} {PostX : Pt → Array Value → Addr → Pt → Prop} (hK : vx_Back l R p e below s args y 3 W9 Pre Post PostX)
    {b : Addr} {cellB : Cell} (hcell : T.heap[b]? = some cellB) (hobj : cellB.vm.isStatics = false) (hcls : s.vm.findClass C = some cellB.cls)
    {g : JFrame} (hg : g.method = m) (hsize : g.locals.size = c.maxLocals) {argsL rest : List Value} (hlen : ∀ sig, parseMethodDescriptor y.desc = some sig → argsL.length = sig.parameters.length)
    (hstack : g.stack = argsL.reverse ++ .ref b :: rest) (hW : 2 * g.monitorRoom + (rest.map fun v => v.category).sum ≤ W9) (hdg : decode c.code g.pc = .ok (.invokevirtual index, 3))
    (hpre : ∀ vm₁, s.WarmedH vm₁ → Pre ⟨T.setVm vm₁, locs, cells, slots⟩ (Value.ref b :: argsL).toArray) :
    (∃ (v : Option Value) (vm₁ : Vm) (B : Pt), s.WarmedH vm₁ ∧ Stand p l e R s m args below meth c B.U B.locs B.cells B.slots ∧ Post ⟨T.setVm vm₁, locs, cells, slots⟩ (Value.ref b :: argsL).toArray v B ∧
      ∀ target, Steps p.tables e below (B.U.setTop { g with pc := g.pc + 3, stack := v.toList ++ rest }) target → Steps p.tables e below (T.setTop g) target) ∨
    (∃ (q : Addr) (vm₁ : Vm) (B : Pt), s.WarmedH vm₁ ∧ Stand p l e R s m args below meth c B.U B.locs B.cells B.slots ∧ PostX ⟨T.setVm vm₁, locs, cells, slots⟩ (Value.ref b :: argsL).toArray q B ∧
      Steps p.tables e below (T.setTop g) ((B.U.setTop { g with stack := rest }).pushFrame (.throwing q))) := by
  obtain ⟨mk, methM, hnamed, hmethM, hstM, habM⟩ := Cond.instanceMethod_spec hinst
  obtain ⟨methM', cM, hmethM', -, -, -, -, -, -, hsigM⟩ := Cond.code_spec hnamed hcode
  cases hmethM.symm.trans hmethM'
  obtain ⟨c2, r2, m2, q1, q2, q3, q4, kP, hkP, hkPi⟩ := Cond.selects_spec hsel
  cases hcls.symm.trans q1
  cases (State.methodFound?_of_named hnamed hy).symm.trans q2
  cases hnamed.symm.trans q3
  have hselP : selectMethod e.platform s.vm cellB.cls mk = .method mk := by rw [Launch.admits_selectMethod X.admits]; exact q4
  obtain ⟨vm₁, X₁, hstep₁⟩ := X.invokevirtual hexec hown hlink hnamed hmethM hstM hkP hkPi hy (a := b) (cell := cellB) hcell
    (fun z h => by rw [h] at hobj; cases hobj) hselP hmethM habM hkP hkPi (g := g) hg (argsL := argsL) (rest := rest) (hlen _ hsigM) hstack hdg
  rcases hK m meth c ⟨T.setVm vm₁, locs, cells, slots⟩ { g with stack := rest } (.invokevirtual index) mk (Value.ref b :: argsL).toArray X₁ hg hsize hdg hW (X₁.named hnamed) (hpre vm₁ X₁.warmed) with ⟨v, B, X', hpost, hsteps⟩ | ⟨q, B, X', hpost, hsteps⟩
  · exact Or.inl ⟨v, vm₁, B, X₁.warmed, X', hpost, fun target h => hstep₁ _ fun acts => by rw [doInvoke_state]; exact hsteps.trans h⟩
  · exact Or.inr ⟨q, vm₁, B, X₁.warmed, X', hpost, hstep₁ _ fun acts => by rw [doInvoke_state]; exact hsteps⟩
theorem vx_callS (X : Stand p l e R s m args below meth c T locs cells slots) (hexec : p.tables.exec = Jvm.exec) {own : String} {index : Nat} {y : MethodName} {bytes : ByteArray} {maxL : Nat} {ret : Option FieldType}
    (hown : s.vm.findClass own = some m.cls) (hlink : (Cond.methodLink own index y).before args s = true) (hstat : (Cond.static y).before args s = true) (hinit : (Cond.initialized y.cls).before args s = true)
    (hcode : (Cond.code y bytes maxL ret).before args s = true) (hy : y.cls ≠ "java/lang/invoke/MethodHandle" ∧ y.cls ≠ "java/lang/invoke/VarHandle")
    {W9 : Nat} {Pre : Pt → Array Value → Prop} {Post : Pt → Array Value → Option Value → Pt → Prop} {PostX : Pt → Array Value → Addr → Pt → Prop} (hK : vx_Back l R p e below s args y 3 W9 Pre Post PostX)
    {g : JFrame} (hg : g.method = m) (hsize : g.locals.size = c.maxLocals) {argsL rest : List Value} (hlen : ∀ sig, parseMethodDescriptor y.desc = some sig → argsL.length = sig.parameters.length)
    (hstack : g.stack = argsL.reverse ++ rest) (hW : 2 * g.monitorRoom + (rest.map fun v => v.category).sum ≤ W9) (hdg : decode c.code g.pc = .ok (.invokestatic index, 3))
    (hpre : ∀ vm₁, s.WarmedH vm₁ → Pre ⟨T.setVm vm₁, locs, cells, slots⟩ argsL.toArray) :
    (∃ (v : Option Value) (vm₁ : Vm) (B : Pt), s.WarmedH vm₁ ∧ Stand p l e R s m args below meth c B.U B.locs B.cells B.slots ∧ Post ⟨T.setVm vm₁, locs, cells, slots⟩ argsL.toArray v B ∧
      ∀ target, Steps p.tables e below (B.U.setTop { g with pc := g.pc + 3, stack := v.toList ++ rest }) target → Steps p.tables e below (T.setTop g) target) ∨
    (∃ (q : Addr) (vm₁ : Vm) (B : Pt), s.WarmedH vm₁ ∧ Stand p l e R s m args below meth c B.U B.locs B.cells B.slots ∧ PostX ⟨T.setVm vm₁, locs, cells, slots⟩ argsL.toArray q B ∧
      Steps p.tables e below (T.setTop g) ((B.U.setTop { g with stack := rest }).pushFrame (.throwing q))) := by
  obtain ⟨mk, hnamed⟩ := Cond.code_named hcode
  obtain ⟨methM, cM, hmethM, -, -, -, -, -, -, hsigM⟩ := Cond.code_spec hnamed hcode
  have hstatic : methM.isStatic = true := Cond.static_spec hnamed hmethM hstat
  obtain ⟨kP, hkP, -⟩ := className_of_methodNamed hnamed
  have hinitP : kP.init = .initialized := Cond.initialized_spec (findClass_of_methodNamed hnamed) hkP hinit
  obtain ⟨vm₁, X₁, hstep₁⟩ := X.invokestatic hexec hown hlink hnamed hmethM hstatic hkP hinitP hy (g := g) hg (argsL := argsL) (rest := rest) (hlen _ hsigM) hstack hdg
  rcases hK m meth c ⟨T.setVm vm₁, locs, cells, slots⟩ { g with stack := rest } (.invokestatic index) mk argsL.toArray X₁ hg hsize hdg hW (X₁.named hnamed) (hpre vm₁ X₁.warmed) with ⟨v, B, X', hpost, hsteps⟩ | ⟨q, B, X', hpost, hsteps⟩
  · exact Or.inl ⟨v, vm₁, B, X₁.warmed, X', hpost, fun target h => hstep₁ _ fun acts => by rw [doInvoke_state]; exact hsteps.trans h⟩
  · exact Or.inr ⟨q, vm₁, B, X₁.warmed, X', hpost, hstep₁ _ fun acts => by rw [doInvoke_state]; exact hsteps⟩
end Calls
theorem vx_cls {s : State} {T : State} {vm₁ : Vm} {E : String} {k : ClassId} (hW : s.WarmedH vm₁) (h : (T.setVm vm₁).vm.findClass E = some k) : s.vm.findClass E = some k := by
  have h1 : vm₁.findClass E = some k := h
  rw [hW.alike.findClass] at h1
  exact h1
/-- the method's frame g, with q thrown over it -/
def vx_W (p : Program) (l : Launch) (e : Env) (R : Room) (s : State) (m : MethodId) (args : Array Value) (below : List Frame) (meth : Method) (c : Code) (H : Heap) (locs : List Loc) (cells slots : Nat) (Q : State → Prop) (g : JFrame) (q : Addr) : Prop :=
  ∀ T : State, T.heap = H → Stand p l e R s m args below meth c T locs cells slots → ∃ t, Steps p.tables e below ((T.setTop g).pushFrame (.throwing q)) t ∧ Q t
def vx_Run (p : Program) (l : Launch) (e : Env) (R : Room) (s : State) (m : MethodId) (args : Array Value) (below : List Frame) (meth : Method) (c : Code) (H : Heap) (locs : List Loc) (cells slots mc ms : Nat) (g : JFrame) (rest : List Value) (Qa : State → Outcome → State → Prop) (XC : String → State → State → Prop) (free : Addr → Prop) : Prop :=
  ∀ T : State, T.heap = H → Stand p l e R s m args below meth c T locs cells slots →
    (∃ (v : Option Value) (st₀ t T' : State) (L : List Loc), st₀.heap = H ∧ Stand p l e R s m args below meth c T' (locs ++ L) (cells + mc) (slots + ms) ∧ (∀ q ∈ L, free q.base) ∧ T'.heap = t.heap ∧ T'.vm = t.vm ∧ Qa st₀ (.returned v) t ∧
      Goes p e below T g T' { g with pc := g.pc + 3, stack := v.toList ++ rest }) ∨
    (∃ (q : Addr) (st₀ t T' : State) (L : List Loc) (E : String) (ce : Cell), st₀.heap = H ∧ Stand p l e R s m args below meth c T' (locs ++ L) (cells + mc) (slots + ms) ∧ (∀ z ∈ L, free z.base) ∧ T'.heap = t.heap ∧ T'.vm = t.vm ∧ XC E st₀ t ∧ t.heap[q]? = some ce ∧ ce.vm = .none ∧ s.vm.findClass E = some ce.cls ∧
      Steps p.tables e below (T.setTop g) ((T'.setTop { g with stack := rest }).pushFrame (.throwing q)))
def vx_X {S : Type} (px : S → Prop) (B : String → S → State → Prop) (A : Nat → Prop) : String → State → State → Prop := fun E st t => ∃ u : S, px u ∧ B E u t ∧ va_F A st t
section Runs
variable {p : Program} {l : Launch} {e : Env} {R : Room} {s : State} {m : MethodId} {args : Array Value} {below : List Frame} {meth : Method} {c : Code} {H : Heap} {locs : List Loc} {cells slots : Nat}
variable {y : MethodName} {bytes cc : ByteArray} {maxL nL mc ms n index : Nat} {ret : Option FieldType} {ws : List Cond} {rm : Room} {Pc : Array Value → State → Prop} {Qc : Array Value → State → Outcome → State → Prop} {XC : String → State → State → Prop} {free : Addr → Prop} {Ts : List Cond} {own C : String} {b : Addr} {As rest : List Value} {g : JFrame}
theorem vx_callBack (cb : CallB R s args own index y bytes maxL ret ws rm mc ms n) (hM : vx_Met l y ws rm Pc Qc XC mc ms free) (hbl : FrameBlind Pc) : vx_Back l R p e below s args y 3 8 (PreOf R mc ms Pc) (PostOf Qc mc ms free) (vx_Post XC mc ms free) := by
  obtain ⟨hrc, hrs, hfr, hlo, hws, hcw, -, hini, -⟩ := cb
  exact vx_back (bytes := bytes) (maxL := maxL) (ret := ret) hM hbl hrc hrs hfr hlo hws hcw (fun a' U hW => word_at hW (Or.inl (by first | rfl | simp [Cond.onTables, Cond.keeps, Cond.steady])) hini)
theorem vx_runV (S : CallFix p m c cc nL s args Ts own) (hM : vx_Met l y ws rm Pc Qc XC mc ms free) (cw : CallW R s args own C index y bytes maxL ret ws rm mc ms n) (hp : PreV s H C b Pc As)
    (hg : g.method = m) (hn : As.length = n) (hsize : g.locals.size = nL) (hstack : g.stack = As.reverse ++ .ref b :: rest) (hW : 2 * g.monitorRoom + (rest.map fun v => v.category).sum ≤ 8) (hdg : decode cc g.pc = .ok (.invokevirtual index, 3)) (hf : cells + mc ≤ R.cells ∧ slots + ms ≤ R.slots) :
    vx_Run p l e R s m args below meth c H locs cells slots mc ms g rest (Qc (Value.ref b :: As).toArray) XC free := by
  have hK : vx_Back l R p e below s args y 3 8 (PreOf R mc ms Pc) (PostOf Qc mc ms free) (vx_Post XC mc ms free) := vx_callBack cw.1 hM hp.1
  obtain ⟨⟨-, -, -, -, -, -, hcode, -, hy, hlen, hl⟩, hin, hse⟩ := cw
  obtain ⟨hx, hb, hml, ho, -⟩ := S
  obtain ⟨-, ⟨cellB, hcB, hoB, hclB⟩, hPc⟩ := hp
  intro T hT X
  rcases vx_callV X hx (C := C) (bytes := bytes) (maxL := maxL) (ret := ret) ho hl hin hse hcode hy hK (by rw [hT]; exact hcB) hoB hclB hg (hsize.trans hml.symm) (argsL := As) (rest := rest) (fun sig h => hn.trans (hlen sig h)) hstack hW (by rw [hb]; exact hdg)
    (fun vm₁ hW₁ => ⟨hf.1, hf.2, hPc (T.setVm vm₁) hT hW₁⟩) with ⟨v, vm₁, ⟨U', l2, c2, s2⟩, hW₁, X', ⟨g', mk, t, L, e1, e2, hq, h1, hL, h2, h3⟩, st⟩ | ⟨q, vm₁, ⟨U', l2, c2, s2⟩, hW₁, X', ⟨g', mk, t, L, E, ce, e1, e2, hq, hce, hcv, hcl, h1, hL, h2, h3⟩, st⟩
  · dsimp only [Pt.U, Pt.locs, Pt.cells, Pt.slots] at X' e1 e2 h1 h2 h3 st
    subst h1; subst h2; subst h3
    exact Or.inl ⟨v, (T.setVm vm₁).calling g' mk (Value.ref b :: As).toArray, t, U', L, hT, X', hL, e1, e2, hq, st⟩
  · dsimp only [Pt.U, Pt.locs, Pt.cells, Pt.slots] at X' e1 e2 h1 h2 h3 st hcl
    subst h1; subst h2; subst h3
    exact Or.inr ⟨q, (T.setVm vm₁).calling g' mk (Value.ref b :: As).toArray, t, U', L, E, ce, hT, X', hL, e1, e2, hq, hce, hcv, vx_cls hW₁ hcl, st⟩
theorem vx_runS (S : CallFix p m c cc nL s args Ts own) (hM : vx_Met l y ws rm Pc Qc XC mc ms free) (cw : CallB R s args own index y bytes maxL ret ws rm mc ms n ∧ (Cond.static y).before args s = true) (hp : PreS s H Pc As)
    (hg : g.method = m) (hn : As.length = n) (hsize : g.locals.size = nL) (hstack : g.stack = As.reverse ++ rest) (hW : 2 * g.monitorRoom + (rest.map fun v => v.category).sum ≤ 8) (hdg : decode cc g.pc = .ok (.invokestatic index, 3)) (hf : cells + mc ≤ R.cells ∧ slots + ms ≤ R.slots) :
    vx_Run p l e R s m args below meth c H locs cells slots mc ms g rest (Qc As.toArray) XC free := by
  have hK : vx_Back l R p e below s args y 3 8 (PreOf R mc ms Pc) (PostOf Qc mc ms free) (vx_Post XC mc ms free) := vx_callBack cw.1 hM hp.1
  obtain ⟨⟨-, -, -, -, -, -, hcode, hini, hy, hlen, hl⟩, hstt⟩ := cw
  obtain ⟨hx, hb, hml, ho, -⟩ := S
  intro T hT X
  rcases vx_callS X hx (bytes := bytes) (maxL := maxL) (ret := ret) ho hl hstt hini hcode hy hK hg (hsize.trans hml.symm) (argsL := As) (rest := rest) (fun sig h => hn.trans (hlen sig h)) hstack hW (by rw [hb]; exact hdg)
    (fun vm₁ hW₁ => ⟨hf.1, hf.2, hp.2 (T.setVm vm₁) hT hW₁⟩) with ⟨v, vm₁, ⟨U', l2, c2, s2⟩, hW₁, X', ⟨g', mk, t, L, e1, e2, hq, h1, hL, h2, h3⟩, st⟩ | ⟨q, vm₁, ⟨U', l2, c2, s2⟩, hW₁, X', ⟨g', mk, t, L, E, ce, e1, e2, hq, hce, hcv, hcl, h1, hL, h2, h3⟩, st⟩
  · dsimp only [Pt.U, Pt.locs, Pt.cells, Pt.slots] at X' e1 e2 h1 h2 h3 st
    subst h1; subst h2; subst h3
    exact Or.inl ⟨v, (T.setVm vm₁).calling g' mk As.toArray, t, U', L, hT, X', hL, e1, e2, hq, st⟩
  · dsimp only [Pt.U, Pt.locs, Pt.cells, Pt.slots] at X' e1 e2 h1 h2 h3 st hcl
    subst h1; subst h2; subst h3
    exact Or.inr ⟨q, (T.setVm vm₁).calling g' mk As.toArray, t, U', L, E, ce, hT, X', hL, e1, e2, hq, hce, hcv, vx_cls hW₁ hcl, st⟩
end Runs
section Rows
variable {p : Program} {l : Launch} {e : Env} {R : Room} {s : State} {m : MethodId} {args : Array Value} {below : List Frame} {meth : Method} {c : Code} {H : Heap} {locs : List Loc} {cells slots : Nat} {Q : State → Prop}
variable {mc ms : Nat} {free : Addr → Prop} {A0 A1 : Nat → Prop} {H0 : Heap} {a : Array Value} {pc : Nat} {ls : Array Slot} {st0 rest : List Value}
theorem vx_keep {st₀ t T' : State} {L : List Loc} (h0 : st₀.heap = H) (e1 : T'.heap = t.heap) (hS : va_S A0 H0 H locs) (hA : ∀ q, q < H.size → A1 q → A0 q) (hf : ∀ q, free q → A0 q) (hL : ∀ q ∈ L, free q.base) (hF : va_F A1 st₀ t) :
    H.size ≤ T'.heap.size ∧ (∀ q : Nat, q < H.size → ¬ A1 q → T'.heap[q]? = H[q]?) ∧ va_S A0 H0 T'.heap (locs ++ L) := by
  obtain ⟨hz, hk⟩ := hF
  rw [h0] at hz hk
  exact ⟨by rw [e1]; exact hz, fun q h1 h2 => by rw [e1]; exact hk q h1 h2,
    ⟨Nat.le_trans hS.1 (by rw [e1]; exact hz), fun q h1 h2 => by rw [e1, hk q (Nat.lt_of_lt_of_le h1 hS.1) (fun z => h2 (hA q (Nat.lt_of_lt_of_le h1 hS.1) z))]; exact hS.2.1 q h1 h2, fun q hq => by
      rcases List.mem_append.mp hq with h | h
      · exact hS.2.2 q h
      · exact hf _ (hL q h)⟩⟩
theorem vx_calli {S SX : Type} {post : Int32 → S → Prop} {px : SX → Prop} {B : S → State → Prop} {BX : String → SX → State → Prop} {AX : Nat → Prop} (hr : vx_Run p l e R s m args below meth c H locs cells slots mc ms (F0 m pc ls st0) rest (va_Qi post B A1 a) (vx_X px BX AX) free) (hS : va_S A0 H0 H locs) (hA : ∀ q, q < H.size → A1 q → A0 q) (hf : ∀ q, free q → A0 q) (hAX : ∀ q, q < H.size → AX q → A0 q)
    (kx : ∀ (E : String) (ce : Cell) (q9 : Addr) (u : SX) (t : State) (H1 : Heap) (locs1 : List Loc), t.heap = H1 → s.vm.Alike t.vm → px u → BX E u t → H.size ≤ H1.size → (∀ q : Nat, q < H.size → ¬ AX q → H1[q]? = H[q]?) → va_S A0 H0 H1 locs1 → H1[q9]? = some ce → ce.vm = .none → s.vm.findClass E = some ce.cls → vx_W p l e R s m args below meth c H1 locs1 (cells + mc) (slots + ms) Q (F0 m pc ls rest) q9)
    (kk : ∀ (r : Int32) (u : S) (t : State) (H1 : Heap) (locs1 : List Loc), t.heap = H1 → s.vm.Alike t.vm → post r u → B u t → H.size ≤ H1.size → (∀ q : Nat, q < H.size → ¬ A1 q → H1[q]? = H[q]?) → va_S A0 H0 H1 locs1 → W p l e R s m args below meth c H1 locs1 (cells + mc) (slots + ms) Q (F0 m (pc + 3) ls (.int r :: rest))) : W p l e R s m args below meth c H locs cells slots Q (F0 m pc ls st0) := by
  intro T hT X
  rcases hr T hT X with ⟨v, st₀, t, T', L, h0, X', hL, e1, e2, ⟨⟨r, u, hv, hp, hb⟩, hF⟩, st⟩ | ⟨q, st₀, t, T', L, E, ce, h0, X', hL, e1, e2, ⟨u, hp, hb, hF⟩, hce, hcv, hcl, st⟩
  · cases hv
    obtain ⟨k1, k2, k3⟩ := vx_keep h0 e1 hS hA hf hL hF
    obtain ⟨t2, a1, b1⟩ := kk r u t T'.heap (locs ++ L) e1.symm (by rw [← e2]; exact X'.warmed.alike) hp hb k1 k2 k3 T' rfl X'
    exact ⟨t2, st t2 a1, b1⟩
  · obtain ⟨k1, k2, k3⟩ := vx_keep h0 e1 hS hAX hf hL hF
    obtain ⟨t2, a1, b1⟩ := kx E ce q u t T'.heap (locs ++ L) e1.symm (by rw [← e2]; exact X'.warmed.alike) hp hb k1 k2 k3 (by rw [e1]; exact hce) hcv hcl T' rfl X'
    exact ⟨t2, st.trans a1, b1⟩
theorem vx_calll {S SX : Type} {post : Int64 → S → Prop} {px : SX → Prop} {B : S → State → Prop} {BX : String → SX → State → Prop} {AX : Nat → Prop} (hr : vx_Run p l e R s m args below meth c H locs cells slots mc ms (F0 m pc ls st0) rest (va_Ql post B A1 a) (vx_X px BX AX) free) (hS : va_S A0 H0 H locs) (hA : ∀ q, q < H.size → A1 q → A0 q) (hf : ∀ q, free q → A0 q) (hAX : ∀ q, q < H.size → AX q → A0 q)
    (kx : ∀ (E : String) (ce : Cell) (q9 : Addr) (u : SX) (t : State) (H1 : Heap) (locs1 : List Loc), t.heap = H1 → s.vm.Alike t.vm → px u → BX E u t → H.size ≤ H1.size → (∀ q : Nat, q < H.size → ¬ AX q → H1[q]? = H[q]?) → va_S A0 H0 H1 locs1 → H1[q9]? = some ce → ce.vm = .none → s.vm.findClass E = some ce.cls → vx_W p l e R s m args below meth c H1 locs1 (cells + mc) (slots + ms) Q (F0 m pc ls rest) q9)
    (kk : ∀ (r : Int64) (u : S) (t : State) (H1 : Heap) (locs1 : List Loc), t.heap = H1 → s.vm.Alike t.vm → post r u → B u t → H.size ≤ H1.size → (∀ q : Nat, q < H.size → ¬ A1 q → H1[q]? = H[q]?) → va_S A0 H0 H1 locs1 → W p l e R s m args below meth c H1 locs1 (cells + mc) (slots + ms) Q (F0 m (pc + 3) ls (.long r :: rest))) : W p l e R s m args below meth c H locs cells slots Q (F0 m pc ls st0) := by
  intro T hT X
  rcases hr T hT X with ⟨v, st₀, t, T', L, h0, X', hL, e1, e2, ⟨⟨r, u, hv, hp, hb⟩, hF⟩, st⟩ | ⟨q, st₀, t, T', L, E, ce, h0, X', hL, e1, e2, ⟨u, hp, hb, hF⟩, hce, hcv, hcl, st⟩
  · cases hv
    obtain ⟨k1, k2, k3⟩ := vx_keep h0 e1 hS hA hf hL hF
    obtain ⟨t2, a1, b1⟩ := kk r u t T'.heap (locs ++ L) e1.symm (by rw [← e2]; exact X'.warmed.alike) hp hb k1 k2 k3 T' rfl X'
    exact ⟨t2, st t2 a1, b1⟩
  · obtain ⟨k1, k2, k3⟩ := vx_keep h0 e1 hS hAX hf hL hF
    obtain ⟨t2, a1, b1⟩ := kx E ce q u t T'.heap (locs ++ L) e1.symm (by rw [← e2]; exact X'.warmed.alike) hp hb k1 k2 k3 (by rw [e1]; exact hce) hcv hcl T' rfl X'
    exact ⟨t2, st.trans a1, b1⟩
theorem vx_callf {S SX : Type} {post : UInt32 → S → Prop} {px : SX → Prop} {B : S → State → Prop} {BX : String → SX → State → Prop} {AX : Nat → Prop} (hr : vx_Run p l e R s m args below meth c H locs cells slots mc ms (F0 m pc ls st0) rest (va_Qf post B A1 a) (vx_X px BX AX) free) (hS : va_S A0 H0 H locs) (hA : ∀ q, q < H.size → A1 q → A0 q) (hf : ∀ q, free q → A0 q) (hAX : ∀ q, q < H.size → AX q → A0 q)
    (kx : ∀ (E : String) (ce : Cell) (q9 : Addr) (u : SX) (t : State) (H1 : Heap) (locs1 : List Loc), t.heap = H1 → s.vm.Alike t.vm → px u → BX E u t → H.size ≤ H1.size → (∀ q : Nat, q < H.size → ¬ AX q → H1[q]? = H[q]?) → va_S A0 H0 H1 locs1 → H1[q9]? = some ce → ce.vm = .none → s.vm.findClass E = some ce.cls → vx_W p l e R s m args below meth c H1 locs1 (cells + mc) (slots + ms) Q (F0 m pc ls rest) q9)
    (kk : ∀ (r : UInt32) (u : S) (t : State) (H1 : Heap) (locs1 : List Loc), t.heap = H1 → s.vm.Alike t.vm → post r u → B u t → H.size ≤ H1.size → (∀ q : Nat, q < H.size → ¬ A1 q → H1[q]? = H[q]?) → va_S A0 H0 H1 locs1 → W p l e R s m args below meth c H1 locs1 (cells + mc) (slots + ms) Q (F0 m (pc + 3) ls (.float r :: rest))) : W p l e R s m args below meth c H locs cells slots Q (F0 m pc ls st0) := by
  intro T hT X
  rcases hr T hT X with ⟨v, st₀, t, T', L, h0, X', hL, e1, e2, ⟨⟨r, u, hv, hp, hb⟩, hF⟩, st⟩ | ⟨q, st₀, t, T', L, E, ce, h0, X', hL, e1, e2, ⟨u, hp, hb, hF⟩, hce, hcv, hcl, st⟩
  · cases hv
    obtain ⟨k1, k2, k3⟩ := vx_keep h0 e1 hS hA hf hL hF
    obtain ⟨t2, a1, b1⟩ := kk r u t T'.heap (locs ++ L) e1.symm (by rw [← e2]; exact X'.warmed.alike) hp hb k1 k2 k3 T' rfl X'
    exact ⟨t2, st t2 a1, b1⟩
  · obtain ⟨k1, k2, k3⟩ := vx_keep h0 e1 hS hAX hf hL hF
    obtain ⟨t2, a1, b1⟩ := kx E ce q u t T'.heap (locs ++ L) e1.symm (by rw [← e2]; exact X'.warmed.alike) hp hb k1 k2 k3 (by rw [e1]; exact hce) hcv hcl T' rfl X'
    exact ⟨t2, st.trans a1, b1⟩
theorem vx_calld {S SX : Type} {post : UInt64 → S → Prop} {px : SX → Prop} {B : S → State → Prop} {BX : String → SX → State → Prop} {AX : Nat → Prop} (hr : vx_Run p l e R s m args below meth c H locs cells slots mc ms (F0 m pc ls st0) rest (va_Qd post B A1 a) (vx_X px BX AX) free) (hS : va_S A0 H0 H locs) (hA : ∀ q, q < H.size → A1 q → A0 q) (hf : ∀ q, free q → A0 q) (hAX : ∀ q, q < H.size → AX q → A0 q)
    (kx : ∀ (E : String) (ce : Cell) (q9 : Addr) (u : SX) (t : State) (H1 : Heap) (locs1 : List Loc), t.heap = H1 → s.vm.Alike t.vm → px u → BX E u t → H.size ≤ H1.size → (∀ q : Nat, q < H.size → ¬ AX q → H1[q]? = H[q]?) → va_S A0 H0 H1 locs1 → H1[q9]? = some ce → ce.vm = .none → s.vm.findClass E = some ce.cls → vx_W p l e R s m args below meth c H1 locs1 (cells + mc) (slots + ms) Q (F0 m pc ls rest) q9)
    (kk : ∀ (r : UInt64) (u : S) (t : State) (H1 : Heap) (locs1 : List Loc), t.heap = H1 → s.vm.Alike t.vm → post r u → B u t → H.size ≤ H1.size → (∀ q : Nat, q < H.size → ¬ A1 q → H1[q]? = H[q]?) → va_S A0 H0 H1 locs1 → W p l e R s m args below meth c H1 locs1 (cells + mc) (slots + ms) Q (F0 m (pc + 3) ls (.double r :: rest))) : W p l e R s m args below meth c H locs cells slots Q (F0 m pc ls st0) := by
  intro T hT X
  rcases hr T hT X with ⟨v, st₀, t, T', L, h0, X', hL, e1, e2, ⟨⟨r, u, hv, hp, hb⟩, hF⟩, st⟩ | ⟨q, st₀, t, T', L, E, ce, h0, X', hL, e1, e2, ⟨u, hp, hb, hF⟩, hce, hcv, hcl, st⟩
  · cases hv
    obtain ⟨k1, k2, k3⟩ := vx_keep h0 e1 hS hA hf hL hF
    obtain ⟨t2, a1, b1⟩ := kk r u t T'.heap (locs ++ L) e1.symm (by rw [← e2]; exact X'.warmed.alike) hp hb k1 k2 k3 T' rfl X'
    exact ⟨t2, st t2 a1, b1⟩
  · obtain ⟨k1, k2, k3⟩ := vx_keep h0 e1 hS hAX hf hL hF
    obtain ⟨t2, a1, b1⟩ := kx E ce q u t T'.heap (locs ++ L) e1.symm (by rw [← e2]; exact X'.warmed.alike) hp hb k1 k2 k3 (by rw [e1]; exact hce) hcv hcl T' rfl X'
    exact ⟨t2, st.trans a1, b1⟩
theorem vx_callv {S SX : Type} {post : S → Prop} {px : SX → Prop} {B : S → State → Prop} {BX : String → SX → State → Prop} {AX : Nat → Prop} (hr : vx_Run p l e R s m args below meth c H locs cells slots mc ms (F0 m pc ls st0) rest (va_Qv post B A1 a) (vx_X px BX AX) free) (hS : va_S A0 H0 H locs) (hA : ∀ q, q < H.size → A1 q → A0 q) (hf : ∀ q, free q → A0 q) (hAX : ∀ q, q < H.size → AX q → A0 q)
    (kx : ∀ (E : String) (ce : Cell) (q9 : Addr) (u : SX) (t : State) (H1 : Heap) (locs1 : List Loc), t.heap = H1 → s.vm.Alike t.vm → px u → BX E u t → H.size ≤ H1.size → (∀ q : Nat, q < H.size → ¬ AX q → H1[q]? = H[q]?) → va_S A0 H0 H1 locs1 → H1[q9]? = some ce → ce.vm = .none → s.vm.findClass E = some ce.cls → vx_W p l e R s m args below meth c H1 locs1 (cells + mc) (slots + ms) Q (F0 m pc ls rest) q9)
    (kk : ∀ (u : S) (t : State) (H1 : Heap) (locs1 : List Loc), t.heap = H1 → s.vm.Alike t.vm → post u → B u t → H.size ≤ H1.size → (∀ q : Nat, q < H.size → ¬ A1 q → H1[q]? = H[q]?) → va_S A0 H0 H1 locs1 → W p l e R s m args below meth c H1 locs1 (cells + mc) (slots + ms) Q (F0 m (pc + 3) ls (rest))) : W p l e R s m args below meth c H locs cells slots Q (F0 m pc ls st0) := by
  intro T hT X
  rcases hr T hT X with ⟨v, st₀, t, T', L, h0, X', hL, e1, e2, ⟨⟨u, hv, hp, hb⟩, hF⟩, st⟩ | ⟨q, st₀, t, T', L, E, ce, h0, X', hL, e1, e2, ⟨u, hp, hb, hF⟩, hce, hcv, hcl, st⟩
  · cases hv
    obtain ⟨k1, k2, k3⟩ := vx_keep h0 e1 hS hA hf hL hF
    obtain ⟨t2, a1, b1⟩ := kk u t T'.heap (locs ++ L) e1.symm (by rw [← e2]; exact X'.warmed.alike) hp hb k1 k2 k3 T' rfl X'
    exact ⟨t2, st t2 a1, b1⟩
  · obtain ⟨k1, k2, k3⟩ := vx_keep h0 e1 hS hAX hf hL hF
    obtain ⟨t2, a1, b1⟩ := kx E ce q u t T'.heap (locs ++ L) e1.symm (by rw [← e2]; exact X'.warmed.alike) hp hb k1 k2 k3 (by rw [e1]; exact hce) hcv hcl T' rfl X'
    exact ⟨t2, st.trans a1, b1⟩
/-- caught by the row x of this method's table; the rows ahead don't take it -/
theorem vx_catch {own name : String} {E : String} {ce : Cell} {q : Addr} (hown : s.vm.findClass own = some m.cls) (pre : List ExceptionTableEntry) (x : ExceptionTableEntry) (suf : List ExceptionTableEntry) (hsplit : c.exceptionTable.toList = pre ++ x :: suf)
    (hpass : ∀ z ∈ pre, covers z pc = false ∨ (z.catchType ≠ 0 ∧ ∃ nm : String, (Cond.classLink own z.catchType nm).before args s = true ∧ va_Nc E nm s)) (hx : covers x pc = true) (h0 : x.catchType ≠ 0)
    (hlink : (Cond.classLink own x.catchType name).before args s = true) (hcast : (Cond.castable E name).before args s = true) (hcell : H[q]? = some ce) (hv : ce.vm = .none) (hcl : s.vm.findClass E = some ce.cls)
    (kk : W p l e R s m args below meth c H locs cells slots Q (F0 m x.handlerPc ls [.ref q])) : vx_W p l e R s m args below meth c H locs cells slots Q (F0 m pc ls rest) q := by
  intro T hT X
  have hpl : e.platform.magicAccessors = ({} : Platform).magicAccessors := by rw [X.admits.platform]
  obtain ⟨c3, c4, hc3, hc4, hasg⟩ := Cond.castable_spec hcast
  cases Option.some.inj (hc3.symm.trans hcl)
  obtain ⟨c5, hc5, hcl5⟩ := Cond.classLink_spec hown hlink e.platform hpl
  cases Option.some.inj (hc4.symm.trans hc5)
  obtain ⟨vm', X', st⟩ := X.thenCaughtThrough q (g := F0 m pc ls rest) rfl (Steps.refl _) (by rw [hT]; exact hcell) (by rw [hv]; rfl) (by obtain ⟨k9, h9, -⟩ := Vm.findClass_spec hcl; exact ⟨k9, h9⟩) pre x suf hsplit
    (fun z hz => by
      rcases hpass z hz with h | ⟨hz0, nm, hl1, hn1⟩
      · exact Or.inl h
      · obtain ⟨c6, hc6, hcl6⟩ := Cond.classLink_spec hown hl1 e.platform hpl
        obtain ⟨a8, b8, h1, h2, h3⟩ := hn1
        cases Option.some.inj (h1.symm.trans hcl)
        cases Option.some.inj (h2.symm.trans hc6)
        exact Or.inr ⟨hz0, _, hcl6, h3⟩) hx (Or.inr ⟨h0, c4, hcl5, hasg⟩)
  obtain ⟨t, a1, b1⟩ := kk (T.setVm vm') hT X'
  exact ⟨t, st.trans a1, b1⟩
end Rows
section Ends
variable {p : Program} {l : Launch} {e : Env} {R : Room} {s : State} {m : MethodId} {args : Array Value} {below : List Frame} {meth : Method} {c : Code} {H : Heap} {locs : List Loc} {cells slots : Nat} {Q : State → Prop}
variable {mc ms : Nat} {free : Addr → Prop} {A0 A1 : Nat → Prop} {H0 : Heap} {a : Array Value} {ls : Array Slot} {st0 rest : List Value}
variable {Qc : Array Value → State → Outcome → State → Prop} {XC : String → State → State → Prop}
/-- what a body that may throw owes at its end -/
def vx_MQ (below : List Frame) (Qc : Array Value → State → Outcome → State → Prop) (XC : String → State → State → Prop) (a : Array Value) (s : State) (mc ms : Nat) (free : Addr → Prop) : State → Prop := fun t =>
  ∃ o, t.status = .running ∧ Ended t below o ∧ vx_Q Qc XC mc ms free a s o t
theorem vx_ret {g : JFrame} {mc ms : Nat} (k : W p l e R s m args below meth c H locs cells slots (MQ below Qc args s mc ms free) g) : W p l e R s m args below meth c H locs cells slots (vx_MQ below Qc XC args s mc ms free) g := by
  intro T hT X
  obtain ⟨t, a1, o, b1, b2, b3, b4⟩ := k T hT X
  exact ⟨t, a1, o, b1, b2, Or.inl ⟨b3, b4⟩⟩
/-- not caught here: it goes on to the caller -/
theorem vx_widen {g : JFrame} {q : Addr} {k n : Nat} (h1 : cells ≤ k) (h2 : slots ≤ n) (kk : vx_W p l e R s m args below meth c H locs k n Q g q) : vx_W p l e R s m args below meth c H locs cells slots Q g q := fun T hT X => kk T hT (stand_widen X h1 h2)
theorem vx_out {pc : Nat} {E : String} {ce : Cell} {q : Addr} {mc ms : Nat} (hout : ∀ x ∈ c.exceptionTable.toList, covers x pc = false) (hlocks : meth.locks = false) (hcell : H[q]? = some ce) (hv : ce.vm = .none) (hcl : s.vm.findClass E = some ce.cls)
    (hx : ∀ t : State, t.heap = H → s.vm.Alike t.vm → XC E s t) (hf : ∀ z ∈ locs, free z.base) (hc : cells ≤ mc) (hs : slots ≤ ms) :
    vx_W p l e R s m args below meth c H locs cells slots (vx_MQ below Qc XC args s mc ms free) (F0 m pc ls rest) q := by
  intro T hT X
  obtain ⟨st1, hrun, hend, hW, hsm⟩ := X.leaveThrown q (g := F0 m pc ls rest) rfl rfl rfl hout hlocks
  have hcell9 : (T.setFrames (.throwing q :: below)).heap[q]? = some ce := by
    show T.heap[q]? = some ce
    rw [hT]; exact hcell
  exact ⟨_, st1, .threw q, hrun, hend, Or.inr ⟨q, rfl, E, ce, locs, hx _ hT hW.alike, hcell9, hv, hcl, hW, hsm.mono hc hs, hf⟩⟩
theorem vx_frame {U : State} {k n : Nat} (h : s.sameButNew ({ U with vm := s.vm } : State) locs k n) : s.heap.size ≤ U.heap.size ∧ ∀ q : Nat, q < s.heap.size → (∀ z ∈ locs, z.base ≠ q) → U.heap[q]? = s.heap[q]? := by
  obtain ⟨-, h2, -, -, -, h6⟩ := h
  refine ⟨h2, fun q hq hz => ?_⟩
  obtain ⟨c9, e1, e2, e3, e4⟩ := h6 q _ (Array.getElem?_eq_getElem hq)
  have hs : c9.slots = (s.heap[q]).slots := Array.ext_getElem? fun i => e4 i fun hm => hz _ hm rfl
  have h9 : c9 = s.heap[q] := by
    rw [hs] at e2
    exact e2
  have e5 : U.heap[q]? = some c9 := e1
  rw [e5, h9, Array.getElem?_eq_getElem hq]
/-- the words of a throw but the four that speak of the heap -/
def vx_no (w : Cond) : Bool := decide (w ≠ .isRef (.static Bundle.tN "UNASSIGNED_STACK" Bundle.steD)) && decide (w ≠ .isRef (.static Bundle.tN "SUPPRESSED_SENTINEL" Bundle.listD)) && decide (w ≠ .laysStatic Bundle.tN "UNASSIGNED_STACK" Bundle.steD) && decide (w ≠ .laysStatic Bundle.tN "SUPPRESSED_SENTINEL" Bundle.listD)
def vx_at0 (own : String) (ic : Nat) (X : String) (names : List String) : List Cond := (Bundle.ownAtoms0 own ic X names).filter vx_no
def vx_atS (own : String) (ic : Nat) (X : String) (names : List String) : List Cond := (Bundle.ownAtoms own ic X names).filter vx_no
/-- a word that the tables alone decide, or a good one -/
def vx_ot (w : Cond) : Bool := w.onTables || goodWord w
theorem vx_ot_at {args a' : Array Value} {s U : State} {w : Cond} (hW : s.WarmedH U.vm) (hvm : s.vm = U.vm) (hg : vx_ot w = true) (h : w.before args s = true) : w.before a' U = true := by
  simp only [vx_ot, Bool.or_eq_true] at hg
  rcases hg with hg | hg
  · exact va_tabs hg hvm h
  · exact word_at hW (good_of_word hg) h
/-- a list's words: the good ones out of the method's own list, the others by premises of their own -/
theorem vx_hat {args : Array Value} {s : State} {L B : List Cond} (h1 : ∀ w ∈ L.filter goodWord, w.before args s = true) (h2 : ∀ w ∈ L.filter (fun w => !goodWord w), w ∈ B) (h3 : ∀ w ∈ B, w.before args s = true) : ∀ w ∈ L, w.before args s = true := by
  intro w hw
  by_cases g : goodWord w = true
  · exact h1 w (List.mem_filter.mpr ⟨hw, g⟩)
  · refine h3 w (h2 w (List.mem_filter.mpr ⟨hw, ?_⟩))
    show (!goodWord w) = true
    cases hgw : goodWord w
    · rfl
    · exact absurd hgw g
theorem vx_c {args : Array Value} {s : State} {w : Cond} {B : List Cond} (h : w.before args s = true) (t : ∀ w ∈ B, w.before args s = true) : ∀ w' ∈ w :: B, w'.before args s = true := fun w' h' => (List.mem_cons.mp h').elim (fun e => by rw [e]; exact h) (t w')
theorem vx_n {args : Array Value} {s : State} : ∀ w ∈ ([] : List Cond), w.before args s = true := fun _ h => nomatch h
theorem vx_own {args : Array Value} {s : State} {L : List Cond} (h1 : ∀ w ∈ L.filter vx_no, w.before args s = true)
    (hU : (Cond.isRef (.static Bundle.tN "UNASSIGNED_STACK" Bundle.steD)).before args s = true) (hN : (Cond.isRef (.static Bundle.tN "SUPPRESSED_SENTINEL" Bundle.listD)).before args s = true)
    (lU : (Cond.laysStatic Bundle.tN "UNASSIGNED_STACK" Bundle.steD).before args s = true) (lN : (Cond.laysStatic Bundle.tN "SUPPRESSED_SENTINEL" Bundle.listD).before args s = true) : ∀ w ∈ L, w.before args s = true := by
  intro w hw
  by_cases e1 : w = .isRef (.static Bundle.tN "UNASSIGNED_STACK" Bundle.steD)
  · rw [e1]; exact hU
  · by_cases e2 : w = .isRef (.static Bundle.tN "SUPPRESSED_SENTINEL" Bundle.listD)
    · rw [e2]; exact hN
    · by_cases e3 : w = .laysStatic Bundle.tN "UNASSIGNED_STACK" Bundle.steD
      · rw [e3]; exact lU
      · by_cases e4 : w = .laysStatic Bundle.tN "SUPPRESSED_SENTINEL" Bundle.listD
        · rw [e4]; exact lN
        · exact h1 w (List.mem_filter.mpr ⟨hw, by unfold vx_no; rw [decide_eq_true e1, decide_eq_true e2, decide_eq_true e3, decide_eq_true e4]; rfl⟩)
/-- where a static field lies, its class's statics cell in H -/
def vx_L (C n d : String) (A : Nat → Prop) (U : State) (H : Heap) : Prop := ∃ (c : ClassId) (k : Class) (i : Nat) (f : Field) (a : Nat) (cell : Cell), U.vm.findClass C = some c ∧ U.fieldFound? C n d = some (c, k, i, f) ∧ f.isStatic = true ∧ k.statics = some a ∧ H[a]? = some cell ∧ cell.vm.isStatics = true ∧ cell.cls = c ∧ f.slot < cell.slots.size ∧ k.staticTypes[f.slot]? = some f.type ∧ ¬ A a
theorem vx_L.moved {C n d : String} {A : Nat → Prop} {u U : State} {H : Heap} (hvm : u.vm.Alike U.vm) (h : vx_L C n d A u H) : vx_L C n d A U H := by
  obtain ⟨c, k, i, f, a, cell, h1, h2, h3, h4, h5, h6, h7, h8, h9, h10⟩ := h
  obtain ⟨k', hi', he⟩ := State.fieldFound?_setVm hvm h2
  exact ⟨c, k', i, f, a, cell, by rw [hvm.findClass]; exact h1, hi', h3, by rw [he]; exact h4, h5, h6, h7, h8, by rw [he]; exact h9, h10⟩
theorem vx_L.kept {C n d : String} {A : Nat → Prop} {U : State} {H H1 : Heap} (h : vx_L C n d A U H) (hq : ∀ a : Nat, a < H.size → ¬ A a → H1[a]? = H[a]?) : vx_L C n d A U H1 := by
  obtain ⟨c, k, i, f, a, cell, h1, h2, h3, h4, h5, h6, h7, h8, h9, h10⟩ := h
  exact ⟨c, k, i, f, a, cell, h1, h2, h3, h4, by rw [hq a (Array.getElem?_eq_some_iff.mp h5).1 h10]; exact h5, h6, h7, h8, h9, h10⟩
theorem vx_L.narrow {C n d : String} {A B : Nat → Prop} {U : State} {H : Heap} (h : vx_L C n d A U H) (hAB : ∀ q, B q → A q) : vx_L C n d B U H := by
  obtain ⟨c, k, i, f, a, cell, h1, h2, h3, h4, h5, h6, h7, h8, h9, h10⟩ := h
  exact ⟨c, k, i, f, a, cell, h1, h2, h3, h4, h5, h6, h7, h8, h9, fun z => h10 (hAB _ z)⟩
theorem vx_L.word {C n d : String} {A : Nat → Prop} {s : State} {args : Array Value} (h : vx_L C n d A s s.heap) : (Cond.laysStatic C n d).before args s = true := by
  obtain ⟨c, k, i, f, a, cell, h1, h2, h3, h4, h5, h6, h7, h8, h9, -⟩ := h
  show (Cond.laysStatic C n d).holds args s none s [] = true
  exact Cond.laysStatic_of h1 h2 h3 h4 h5 h6 h7 h8 h9
/-- .. and what it holds: null or some reference -/
def vx_Zq (C n d : String) (A : Nat → Prop) (U : State) (H : Heap) : Prop := va_Zq C n d A U H ∧ vx_L C n d A U H
theorem vx_Zq.moved {C n d : String} {A : Nat → Prop} {u U : State} {H : Heap} (hvm : u.vm.Alike U.vm) (h : vx_Zq C n d A u H) : vx_Zq C n d A U H := ⟨va_Zq.moved hvm h.1, vx_L.moved hvm h.2⟩
theorem vx_Zq.kept {C n d : String} {A : Nat → Prop} {U : State} {H H1 : Heap} (h : vx_Zq C n d A U H) (hq : ∀ a : Nat, a < H.size → ¬ A a → H1[a]? = H[a]?) : vx_Zq C n d A U H1 := ⟨va_Zq.kept h.1 hq, vx_L.kept h.2 hq⟩
theorem vx_Zq.narrow {C n d : String} {A B : Nat → Prop} {U : State} {H : Heap} (h : vx_Zq C n d A U H) (hAB : ∀ q, B q → A q) : vx_Zq C n d B U H := ⟨va_Zq.narrow h.1 hAB, vx_L.narrow h.2 hAB⟩
theorem vx_Zqof {args : Array Value} {s : State} {C n d : String} {A : Nat → Prop} (hl : (Cond.laysStatic C n d).before args s = true) (hini : (Cond.initialized C).before args s = true) (h : (Cond.isRef (.static C n d)).before args s = true) (hA : ∀ a : Nat, a < s.heap.size → ¬ A a) : vx_Zq C n d A s s.heap := by
  refine ⟨va_Zqof hl hini h hA, ?_⟩
  obtain ⟨c, k, i, f, a, cell, h1, h2, h3, h4, h5, h6, h7, h8, h9⟩ := Cond.laysStatic_spec hl
  exact ⟨c, k, i, f, a, cell, h1, h2, h3, h4, h5, h6, h7, h8, h9, hA a (Array.getElem?_eq_some_iff.mp h5).1⟩
theorem vx_isRef {C n d : String} {v : Value} {A : Nat → Prop} {s : State} {args : Array Value} (h : va_Z C n d v A s s.heap) (hv : v.isRef = true) : (Cond.isRef (.static C n d)).before args s = true := by
  obtain ⟨cf, kf, fi, f, a, cell, h1, h2, h3, h4, h5, h6, h7, -⟩ := h
  have he : (Term.static C n d).eval args s none [] s = some v := by
    simp [Term.eval, State.fieldNamed?, h1, h2, h4, h5, h6, h7]
  simp only [Cond.before, Cond.holds, Cond.value, he]
  cases v <;> simp_all [Value.isRef]
theorem vx_isRefq {C n d : String} {A : Nat → Prop} {s : State} {args : Array Value} (h : va_Zq C n d A s s.heap) : (Cond.isRef (.static C n d)).before args s = true := by
  rcases h with h | ⟨t, h⟩
  · exact vx_isRef h rfl
  · exact vx_isRef h rfl
/-- the same frame, seen from here: as if the method were called anew in this heap -/
theorem vx_rebase {T : State} (X : Stand p l e R s m args below meth c T locs cells slots) {R' : Room} (hf : R'.frames ≤ R.frames) (hl : R'.locals ≤ R.locals) (hc : cells + R'.cells ≤ R.cells) (hs : slots + R'.slots ≤ R.slots) :
    Stand p l e R' ((T.setVm s.vm).setFrames (.invoking m args :: below)) m args below meth c T [] 0 0 := by
  have htop : (T.setVm s.vm).topJava?.isSome := X.here.top
  have hF : ((T.setVm s.vm).setFrames (.invoking m args :: below)).frames = .invoking m args :: below := State.frames_setFrames _ (State.cur_lt_of_top htop)
  obtain ⟨g₀, hg0⟩ := Option.isSome_iff_exists.mp htop
  obtain ⟨r, hr⟩ := State.topJava?_eq_some.mp hg0
  have hl9 : e.platform.stackLimits (T.setVm s.vm).me = e.platform.stackLimits s.me := X.limits
  have hb9 : (T.setVm s.vm).me.stackBytes = s.me.stackBytes := X.bytes
  refine ⟨X.admits, X.cas, X.clock, hF, ?_, X.hears, X.method, X.code, X.here, X.tail, X.warmed, ?_, ?_, ?_⟩
  · have h := X.room
    have hU : ((T.setVm s.vm).setFrames (.invoking m args :: below)).localsInUse = s.localsInUse := by
      rw [State.localsInUse_invoking hF (meth := meth) (c := c) X.method X.code, State.localsInUse_invoking X.frames X.method X.code]
    simp only [State.hasRoom, Bool.and_eq_true, decide_eq_true_eq] at h ⊢
    obtain ⟨⟨⟨⟨h1, h2, h3, h4, h5, h6⟩, h7⟩, h8⟩, h9⟩ := h
    rw [X.frames, List.length_cons] at h2 h3
    have q1 := X.heapSize
    have q2 := X.used
    simp only [hF, hU, List.length_cons, State.stackLimits_setFrames, State.stackBytes_setFrames, hl9, hb9]
    refine ⟨⟨⟨⟨by omega, by omega, by omega, by omega, by omega, h6⟩, ?_⟩, ?_⟩, X.book⟩
    · show T.heap.size + R'.cells ≤ e.platform.maxCells
      omega
    · show T.slotsUsed + R'.slots ≤ e.platform.maxSlots
      omega
  · rw [State.stackLimits_setFrames]; rfl
  · rw [State.stackBytes_setFrames]; rfl
  · refine ⟨?_, Nat.le_refl _, Nat.le_refl _, ?_, ?_, fun a c9 h9 => ⟨c9, h9, rfl, rfl, fun _ _ => rfl⟩⟩
    · obtain ⟨t, ht, -⟩ := State.frames_cons hr
      show T.setVm s.vm = { ((T.setVm s.vm).setFrames (.invoking m args :: below)).setFrames (T.setVm s.vm).frames with heap := T.heap, slotsUsed := T.slotsUsed }
      rw [State.setFrames_setFrames, State.setFrames_self ht]
      rfl
    · show T.slotsUsed = T.slotsUsed + ((T.heap.toList.drop T.heap.size).map (·.slots.size)).sum
      rw [List.drop_eq_nil_of_le (Nat.le_of_eq Array.length_toList)]
      rfl
    · show ((T.heap.toList.drop T.heap.size).map (·.slots.size)).sum ≤ 0
      rw [List.drop_eq_nil_of_le (Nat.le_of_eq Array.length_toList)]
      exact Nat.le_refl _
/-- 'throw new E()': new; dup; invokespecial; athrow -/
theorem vx_throw0 {cc : ByteArray} {pc : Nat} (hexec : p.tables.exec = Jvm.exec) (hb : c.code = cc) (hl : l.stackTraces = false) {own cls : String} {names : List String} {ik ic mc ms : Nat} {A : Nat → Prop}
    (hown : s.vm.findClass own = some m.cls) (hcls : Bundle.fit cls = true) (hnames : ∀ n ∈ names, Bundle.fit n = true)
    (hk : (Cond.classLink own ik cls).before args s = true) (hini : (Cond.initialized cls).before args s = true) (hat : ∀ w ∈ vx_at0 own ic cls names, w.before args s = true)
    (hgood : ∀ w ∈ Cond.classLink own ik cls :: Cond.initialized cls :: vx_at0 own ic cls names, vx_ot w = true)
    (hU : vx_Zq Bundle.tN "UNASSIGNED_STACK" Bundle.steD A s s.heap) (hN : vx_Zq Bundle.tN "SUPPRESSED_SENTINEL" Bundle.listD A s s.heap) (hS : va_S A s.heap H locs) (hsize : ls.size = c.maxLocals)
    (d0 : decode cc pc = .ok (.new ik, 3)) (d3 : decode cc (pc + 3) = .ok (.dup, 1)) (d4 : decode cc (pc + 4) = .ok (.invokespecial ic, 3)) (d7 : decode cc (pc + 7) = .ok (.athrow, 1))
    (hout : ∀ x ∈ c.exceptionTable.toList, covers x (pc + 7) = false)
    (hRframes : names.length + 3 < R.frames) (hRlocals : (rest.map fun v => v.category).sum + (13 * (names.length + 1) + 42) ≤ R.locals) (hRcells : cells + 1 ≤ R.cells) (hRslots : slots + 6 ≤ R.slots) (hlocks : meth.locks = false)
    (hx : ∀ t : State, s.vm.Alike t.vm → H.size ≤ t.heap.size → (∀ q : Nat, q < H.size → t.heap[q]? = H[q]?) → XC cls s t)
    (hf : ∀ z ∈ locs, free z.base) (hc : cells + 1 ≤ mc) (hs : slots + 6 ≤ ms) :
    W p l e R s m args below meth c H locs cells slots (vx_MQ below Qc XC args s mc ms free) (F0 m pc ls rest) := by
  intro T hT X
  have htr : e.platform.stackTraces = false := (show e.platform.stackTraces = l.stackTraces by rw [X.admits.platform]).trans hl
  have Y := vx_rebase X (R' := { frames := R.frames, locals := R.locals, cells := 1, slots := 6 }) (Nat.le_refl _) (Nat.le_refl _) hRcells hRslots
  obtain ⟨s', hA⟩ : ∃ z, z = (T.setVm s.vm).setFrames (.invoking m args :: below) := ⟨_, rfl⟩
  rw [← hA] at Y
  have hvm : s'.vm = s.vm := by rw [hA]; rfl
  have hhp : s'.heap = H := by rw [hA]; exact hT
  have hW0 : s.WarmedH s'.vm := by rw [hvm]; exact State.WarmedH.refl s
  have hat' : ∀ w ∈ vx_at0 own ic cls names, w.before args s' = true := fun w hw => vx_ot_at hW0 hvm.symm (hgood w (List.mem_cons_of_mem _ (List.mem_cons_of_mem _ hw))) (hat w hw)
  have hk' : (Cond.classLink own ik cls).before args s' = true := vx_ot_at hW0 hvm.symm (hgood _ List.mem_cons_self) hk
  have hini' : (Cond.initialized cls).before args s' = true := vx_ot_at hW0 hvm.symm (hgood _ (List.mem_cons_of_mem _ List.mem_cons_self)) hini
  have hU' : vx_Zq Bundle.tN "UNASSIGNED_STACK" Bundle.steD A s' s'.heap := by rw [hhp]; exact vx_Zq.moved hW0.alike (hU.kept hS.2.1)
  have hN' : vx_Zq Bundle.tN "SUPPRESSED_SENTINEL" Bundle.listD A s' s'.heap := by rw [hhp]; exact vx_Zq.moved hW0.alike (hN.kept hS.2.1)
  have h : ∀ w ∈ Bundle.ownAtoms0 own ic cls names, w.before args s' = true := vx_own hat' (vx_isRefq hU'.1) (vx_isRefq hN'.1) hU'.2.word hN'.2.word
  have hown' : s'.vm.findClass own = some m.cls := by rw [hvm]; exact hown
  have hins : (Cond.instantiable cls 6).before args s' = true := h _ (by simp [Bundle.ownAtoms0])
  obtain ⟨vm₁, cX, kX, hfX, hkX, -, -, X₁, st1⟩ := Y.newCold hexec (own := own) (C := cls) (index := ik) (n := 6) hown' hk' hins hini'
    (g := F0 m pc ls rest) rfl (by rw [hb]; exact d0) (Nat.le_refl _) (Nat.le_refl _)
  generalize hT1 : (T.setVm vm₁).pushCell { cls := cX, slots := kX.instanceTypes.map defaultValue, vm := .none } = T1 at X₁ st1
  have hcat : (Value.ref T.heap.size).category = 1 := rfl
  have hcellA : T1.heap[T.heap.size]? = some (freshCell cX kX) := by rw [← hT1]; exact State.heap_pushCell_size _ _
  have d3' : decode c.code (pc + 3) = .ok (.dup, 1) := by rw [hb]; exact d3
  obtain ⟨U, hsteps, hrun, hend, hW, hsame, ce, hce, hO⟩ := X₁.ctorThrow0 hexec htr (own := own) (cls := cls) (names := names) (ic := ic) hown' hcls hnames h (fun x hx => nomatch hx) hfX hkX hcellA (by rw [hhp, hT]; exact Nat.le_refl _)
    (g := { method := m, pc := pc + 4, locals := ls, stack := .ref T.heap.size :: .ref T.heap.size :: rest, locked := none }) rfl hsize rfl rfl (rest := rest) rfl
    (by rw [hb]; exact d4) (by rw [hb]; exact d7) hout hRframes (by simp only [List.map_cons, List.sum_cons, hcat]; omega) hlocks
  obtain ⟨f1, f2⟩ := vx_frame hsame
  rw [hhp] at f1 f2
  have hWs : s.WarmedH U.vm := State.WarmedH.trans hW0 hW
  have hcl : s.vm.findClass cls = some ce.cls := by
    have h9 := hO.cls
    rw [hvm] at h9
    exact h9
  have hall : s.sameButNew ({ U with vm := s.vm } : State) locs mc ms := by
    subst hA
    obtain ⟨e1, e2⟩ := hsame
    rw [State.setFrames_setFrames] at e1
    have h2 : (T.setVm s.vm).sameButNew ({ U with vm := s.vm } : State) [] (0 + 1) (0 + 6) := ⟨e1, e2⟩
    have h3 := X.same.trans h2
    rw [List.append_nil] at h3
    exact h3.mono hc hs
  refine ⟨U, ?_, .threw T.heap.size, hrun, hend, Or.inr ⟨T.heap.size, rfl, cls, ce, locs, hx U hWs.alike f1 (fun q hq => f2 q hq (fun z hz => nomatch hz)), hce, hO.vm, hcl, hWs, hall, hf⟩⟩
  refine st1 _ ?_
  show Steps p.tables e below (T1.setTop { method := m, pc := pc + 3, locals := ls, stack := .ref T.heap.size :: rest, locked := none }) _
  jvm_step X₁.here [X₁.here.top, hexec, d3', Value.category]
  exact hsteps
/-- 'throw new E("text")': new; dup; ldc; invokespecial; athrow -/
theorem vx_throwS {cc : ByteArray} {pc : Nat} (hexec : p.tables.exec = Jvm.exec) (hb : c.code = cc) (hl : l.stackTraces = false) {own cls text : String} {names : List String} {ik is ic mc ms sa : Nat} {A : Nat → Prop}
    (hown : s.vm.findClass own = some m.cls) (hcls : Bundle.fit cls = true) (hnames : ∀ n ∈ names, Bundle.fit n = true)
    (hk : (Cond.classLink own ik cls).before args s = true) (hini : (Cond.initialized cls).before args s = true) (hstr : vk_R own is text sa s) (hat : ∀ w ∈ vx_atS own ic cls names, w.before args s = true)
    (hgood : ∀ w ∈ Cond.classLink own ik cls :: Cond.initialized cls :: vx_atS own ic cls names, vx_ot w = true)
    (hU : vx_Zq Bundle.tN "UNASSIGNED_STACK" Bundle.steD A s s.heap) (hN : vx_Zq Bundle.tN "SUPPRESSED_SENTINEL" Bundle.listD A s s.heap) (hS : va_S A s.heap H locs) (hsize : ls.size = c.maxLocals)
    (d0 : decode cc pc = .ok (.new ik, 3)) (d3 : decode cc (pc + 3) = .ok (.dup, 1)) (d4 : decode cc (pc + 4) = .ok (.ldc is, 2)) (d6 : decode cc (pc + 6) = .ok (.invokespecial ic, 3)) (d9 : decode cc (pc + 9) = .ok (.athrow, 1))
    (hout : ∀ x ∈ c.exceptionTable.toList, covers x (pc + 9) = false)
    (hRframes : names.length + 3 < R.frames) (hRlocals : (rest.map fun v => v.category).sum + (13 * (names.length + 1) + 43) ≤ R.locals) (hRcells : cells + 1 ≤ R.cells) (hRslots : slots + 6 ≤ R.slots) (hlocks : meth.locks = false)
    (hx : ∀ t : State, s.vm.Alike t.vm → H.size ≤ t.heap.size → (∀ q : Nat, q < H.size → t.heap[q]? = H[q]?) → XC cls s t)
    (hf : ∀ z ∈ locs, free z.base) (hc : cells + 1 ≤ mc) (hs : slots + 6 ≤ ms) :
    W p l e R s m args below meth c H locs cells slots (vx_MQ below Qc XC args s mc ms free) (F0 m pc ls rest) := by
  intro T hT X
  have htr : e.platform.stackTraces = false := (show e.platform.stackTraces = l.stackTraces by rw [X.admits.platform]).trans hl
  have Y := vx_rebase X (R' := { frames := R.frames, locals := R.locals, cells := 1, slots := 6 }) (Nat.le_refl _) (Nat.le_refl _) hRcells hRslots
  obtain ⟨s', hA⟩ : ∃ z, z = (T.setVm s.vm).setFrames (.invoking m args :: below) := ⟨_, rfl⟩
  rw [← hA] at Y
  have hvm : s'.vm = s.vm := by rw [hA]; rfl
  have hhp : s'.heap = H := by rw [hA]; exact hT
  have hW0 : s.WarmedH s'.vm := by rw [hvm]; exact State.WarmedH.refl s
  have hat' : ∀ w ∈ vx_atS own ic cls names, w.before args s' = true := fun w hw => vx_ot_at hW0 hvm.symm (hgood w (List.mem_cons_of_mem _ (List.mem_cons_of_mem _ hw))) (hat w hw)
  have hk' : (Cond.classLink own ik cls).before args s' = true := vx_ot_at hW0 hvm.symm (hgood _ List.mem_cons_self) hk
  have hini' : (Cond.initialized cls).before args s' = true := vx_ot_at hW0 hvm.symm (hgood _ (List.mem_cons_of_mem _ List.mem_cons_self)) hini
  have hU' : vx_Zq Bundle.tN "UNASSIGNED_STACK" Bundle.steD A s' s'.heap := by rw [hhp]; exact vx_Zq.moved hW0.alike (hU.kept hS.2.1)
  have hN' : vx_Zq Bundle.tN "SUPPRESSED_SENTINEL" Bundle.listD A s' s'.heap := by rw [hhp]; exact vx_Zq.moved hW0.alike (hN.kept hS.2.1)
  have h : ∀ w ∈ Bundle.ownAtoms own ic cls names, w.before args s' = true := vx_own hat' (vx_isRefq hU'.1) (vx_isRefq hN'.1) hU'.2.word hN'.2.word
  have hown' : s'.vm.findClass own = some m.cls := by rw [hvm]; exact hown
  have hins : (Cond.instantiable cls 6).before args s' = true := h _ (by simp [Bundle.ownAtoms])
  obtain ⟨vm₁, cX, kX, hfX, hkX, -, -, X₁, st1⟩ := Y.newCold hexec (own := own) (C := cls) (index := ik) (n := 6) hown' hk' hins hini'
    (g := F0 m pc ls rest) rfl (by rw [hb]; exact d0) (Nat.le_refl _) (Nat.le_refl _)
  generalize hT1 : (T.setVm vm₁).pushCell { cls := cX, slots := kX.instanceTypes.map defaultValue, vm := .none } = T1 at X₁ st1
  have hcat : (Value.ref T.heap.size).category = 1 := rfl
  have hcellA : T1.heap[T.heap.size]? = some (freshCell cX kX) := by rw [← hT1]; exact State.heap_pushCell_size _ _
  have d3' : decode c.code (pc + 3) = .ok (.dup, 1) := by rw [hb]; exact d3
  have d4' : decode c.code (pc + 4) = .ok (.ldc is, 2) := by rw [hb]; exact d4
  have hstr' : vk_R own is text sa s' := vk_R.warm hW0 hstr
  obtain ⟨U, hsteps, hrun, hend, hW, hsame, ce, hce, hO⟩ := X₁.ctorThrowS hexec htr (own := own) (cls := cls) (names := names) (ic := ic) hown' hcls hnames h (fun x hx => nomatch hx) hfX hkX hcellA (by rw [hhp, hT]; exact Nat.le_refl _) (msg := .ref sa) rfl
    (g := { method := m, pc := pc + 6, locals := ls, stack := .ref sa :: .ref T.heap.size :: .ref T.heap.size :: rest, locked := none }) rfl hsize rfl rfl (rest := rest) rfl
    (by rw [hb]; exact d6) (by rw [hb]; exact d9) hout hRframes (by simp only [List.map_cons, List.sum_cons, hcat]; omega) hlocks
  obtain ⟨f1, f2⟩ := vx_frame hsame
  rw [hhp] at f1 f2
  have hWs : s.WarmedH U.vm := State.WarmedH.trans hW0 hW
  have hcl : s.vm.findClass cls = some ce.cls := by
    have h9 := hO.cls
    rw [hvm] at h9
    exact h9
  have hall : s.sameButNew ({ U with vm := s.vm } : State) locs mc ms := by
    subst hA
    obtain ⟨e1, e2⟩ := hsame
    rw [State.setFrames_setFrames] at e1
    have h2 : (T.setVm s.vm).sameButNew ({ U with vm := s.vm } : State) [] (0 + 1) (0 + 6) := ⟨e1, e2⟩
    have h3 := X.same.trans h2
    rw [List.append_nil] at h3
    exact h3.mono hc hs
  refine ⟨U, ?_, .threw T.heap.size, hrun, hend, Or.inr ⟨T.heap.size, rfl, cls, ce, locs, hx U hWs.alike f1 (fun q hq => f2 q hq (fun z hz => nomatch hz)), hce, hO.vm, hcl, hWs, hall, hf⟩⟩
  refine st1 _ ?_
  show Steps p.tables e below (T1.setTop { method := m, pc := pc + 3, locals := ls, stack := .ref T.heap.size :: rest, locked := none }) _
  jvm_step X₁.here [X₁.here.top, hexec, d3', Value.category]
  exact X₁.ldcString hexec (own := own) (text := text) (index := is) (a := sa) hown' hstr'.1 hstr'.2
    (g := { method := m, pc := pc + 4, locals := ls, stack := .ref T.heap.size :: .ref T.heap.size :: rest, locked := none }) rfl d4' _ hsteps
/-- 'throw new E("text")', the text by a wide index -/
theorem vx_throwSW {cc : ByteArray} {pc : Nat} (hexec : p.tables.exec = Jvm.exec) (hb : c.code = cc) (hl : l.stackTraces = false) {own cls text : String} {names : List String} {ik is ic mc ms sa : Nat} {A : Nat → Prop}
    (hown : s.vm.findClass own = some m.cls) (hcls : Bundle.fit cls = true) (hnames : ∀ n ∈ names, Bundle.fit n = true)
    (hk : (Cond.classLink own ik cls).before args s = true) (hini : (Cond.initialized cls).before args s = true) (hstr : vk_R own is text sa s) (hat : ∀ w ∈ vx_atS own ic cls names, w.before args s = true)
    (hgood : ∀ w ∈ Cond.classLink own ik cls :: Cond.initialized cls :: vx_atS own ic cls names, vx_ot w = true)
    (hU : vx_Zq Bundle.tN "UNASSIGNED_STACK" Bundle.steD A s s.heap) (hN : vx_Zq Bundle.tN "SUPPRESSED_SENTINEL" Bundle.listD A s s.heap) (hS : va_S A s.heap H locs) (hsize : ls.size = c.maxLocals)
    (d0 : decode cc pc = .ok (.new ik, 3)) (d3 : decode cc (pc + 3) = .ok (.dup, 1)) (d4 : decode cc (pc + 4) = .ok (.ldc_w is, 3)) (d7 : decode cc (pc + 7) = .ok (.invokespecial ic, 3)) (d10 : decode cc (pc + 10) = .ok (.athrow, 1))
    (hout : ∀ x ∈ c.exceptionTable.toList, covers x (pc + 10) = false)
    (hRframes : names.length + 3 < R.frames) (hRlocals : (rest.map fun v => v.category).sum + (13 * (names.length + 1) + 43) ≤ R.locals) (hRcells : cells + 1 ≤ R.cells) (hRslots : slots + 6 ≤ R.slots) (hlocks : meth.locks = false)
    (hx : ∀ t : State, s.vm.Alike t.vm → H.size ≤ t.heap.size → (∀ q : Nat, q < H.size → t.heap[q]? = H[q]?) → XC cls s t)
    (hf : ∀ z ∈ locs, free z.base) (hc : cells + 1 ≤ mc) (hs : slots + 6 ≤ ms) :
    W p l e R s m args below meth c H locs cells slots (vx_MQ below Qc XC args s mc ms free) (F0 m pc ls rest) := by
  intro T hT X
  have htr : e.platform.stackTraces = false := (show e.platform.stackTraces = l.stackTraces by rw [X.admits.platform]).trans hl
  have Y := vx_rebase X (R' := { frames := R.frames, locals := R.locals, cells := 1, slots := 6 }) (Nat.le_refl _) (Nat.le_refl _) hRcells hRslots
  obtain ⟨s', hA⟩ : ∃ z, z = (T.setVm s.vm).setFrames (.invoking m args :: below) := ⟨_, rfl⟩
  rw [← hA] at Y
  have hvm : s'.vm = s.vm := by rw [hA]; rfl
  have hhp : s'.heap = H := by rw [hA]; exact hT
  have hW0 : s.WarmedH s'.vm := by rw [hvm]; exact State.WarmedH.refl s
  have hat' : ∀ w ∈ vx_atS own ic cls names, w.before args s' = true := fun w hw => vx_ot_at hW0 hvm.symm (hgood w (List.mem_cons_of_mem _ (List.mem_cons_of_mem _ hw))) (hat w hw)
  have hk' : (Cond.classLink own ik cls).before args s' = true := vx_ot_at hW0 hvm.symm (hgood _ List.mem_cons_self) hk
  have hini' : (Cond.initialized cls).before args s' = true := vx_ot_at hW0 hvm.symm (hgood _ (List.mem_cons_of_mem _ List.mem_cons_self)) hini
  have hU' : vx_Zq Bundle.tN "UNASSIGNED_STACK" Bundle.steD A s' s'.heap := by rw [hhp]; exact vx_Zq.moved hW0.alike (hU.kept hS.2.1)
  have hN' : vx_Zq Bundle.tN "SUPPRESSED_SENTINEL" Bundle.listD A s' s'.heap := by rw [hhp]; exact vx_Zq.moved hW0.alike (hN.kept hS.2.1)
  have h : ∀ w ∈ Bundle.ownAtoms own ic cls names, w.before args s' = true := vx_own hat' (vx_isRefq hU'.1) (vx_isRefq hN'.1) hU'.2.word hN'.2.word
  have hown' : s'.vm.findClass own = some m.cls := by rw [hvm]; exact hown
  have hins : (Cond.instantiable cls 6).before args s' = true := h _ (by simp [Bundle.ownAtoms])
  obtain ⟨vm₁, cX, kX, hfX, hkX, -, -, X₁, st1⟩ := Y.newCold hexec (own := own) (C := cls) (index := ik) (n := 6) hown' hk' hins hini'
    (g := F0 m pc ls rest) rfl (by rw [hb]; exact d0) (Nat.le_refl _) (Nat.le_refl _)
  generalize hT1 : (T.setVm vm₁).pushCell { cls := cX, slots := kX.instanceTypes.map defaultValue, vm := .none } = T1 at X₁ st1
  have hcat : (Value.ref T.heap.size).category = 1 := rfl
  have hcellA : T1.heap[T.heap.size]? = some (freshCell cX kX) := by rw [← hT1]; exact State.heap_pushCell_size _ _
  have d3' : decode c.code (pc + 3) = .ok (.dup, 1) := by rw [hb]; exact d3
  have d4' : decode c.code (pc + 4) = .ok (.ldc_w is, 3) := by rw [hb]; exact d4
  have hstr' : vk_R own is text sa s' := vk_R.warm hW0 hstr
  obtain ⟨U, hsteps, hrun, hend, hW, hsame, ce, hce, hO⟩ := X₁.ctorThrowS hexec htr (own := own) (cls := cls) (names := names) (ic := ic) hown' hcls hnames h (fun x hx => nomatch hx) hfX hkX hcellA (by rw [hhp, hT]; exact Nat.le_refl _) (msg := .ref sa) rfl
    (g := { method := m, pc := pc + 7, locals := ls, stack := .ref sa :: .ref T.heap.size :: .ref T.heap.size :: rest, locked := none }) rfl hsize rfl rfl (rest := rest) rfl
    (by rw [hb]; exact d7) (by rw [hb]; exact d10) hout hRframes (by simp only [List.map_cons, List.sum_cons, hcat]; omega) hlocks
  obtain ⟨f1, f2⟩ := vx_frame hsame
  rw [hhp] at f1 f2
  have hWs : s.WarmedH U.vm := State.WarmedH.trans hW0 hW
  have hcl : s.vm.findClass cls = some ce.cls := by
    have h9 := hO.cls
    rw [hvm] at h9
    exact h9
  have hall : s.sameButNew ({ U with vm := s.vm } : State) locs mc ms := by
    subst hA
    obtain ⟨e1, e2⟩ := hsame
    rw [State.setFrames_setFrames] at e1
    have h2 : (T.setVm s.vm).sameButNew ({ U with vm := s.vm } : State) [] (0 + 1) (0 + 6) := ⟨e1, e2⟩
    have h3 := X.same.trans h2
    rw [List.append_nil] at h3
    exact h3.mono hc hs
  refine ⟨U, ?_, .threw T.heap.size, hrun, hend, Or.inr ⟨T.heap.size, rfl, cls, ce, locs, hx U hWs.alike f1 (fun q hq => f2 q hq (fun z hz => nomatch hz)), hce, hO.vm, hcl, hWs, hall, hf⟩⟩
  refine st1 _ ?_
  show Steps p.tables e below (T1.setTop { method := m, pc := pc + 3, locals := ls, stack := .ref T.heap.size :: rest, locked := none }) _
  jvm_step X₁.here [X₁.here.top, hexec, d3', Value.category]
  exact X₁.ldcStringW hexec (own := own) (text := text) (index := is) (a := sa) hown' hstr'.1 hstr'.2
    (g := { method := m, pc := pc + 4, locals := ls, stack := .ref T.heap.size :: .ref T.heap.size :: rest, locked := none }) rfl d4' _ hsteps
end Ends
section Bodies
variable {l : Launch}
theorem vx_ofW {y : MethodName} {ws ws' : List Cond} {rm : Room} {Pc : Array Value → State → Prop} {Qc : Array Value → State → Outcome → State → Prop} {XC : String → State → State → Prop} {mc ms : Nat} {free : Addr → Prop} {cc : ByteArray} {maxL : Nat} {ret : Option FieldType}
    (hy : plainName y.cls = true) (hw : ws = Cond.code y cc maxL ret :: ws')
    (body : ∀ p e s m args below meth c s₁, BodyLoose p l y (headSpec ws rm) cc maxL ret e s m args below meth c s₁ → c.maxLocals = maxL → (∀ x ∈ c.exceptionTable.toList, False) → Pc args s →
      W p l e (headSpec ws rm).room s m args below meth c s.heap [] 0 0 (vx_MQ below Qc XC args s mc ms free) (entryFrame m args maxL)) : vx_Met l y ws rm Pc Qc XC mc ms free := by
  refine MetFree.of_bodyS (code := cc) (maxLocals := maxL) (ret := ret) hy ?_ ?_
  · intro args s m h hn
    obtain ⟨meth, c, h1, h2, h3, h4, h5, h6, -, -⟩ := Cond.code_spec hn (atoms_spec (ws := ws) h _ (by rw [hw]; exact List.mem_cons_self))
    exact ⟨meth, c, h1, h2, h3, h4, h5, h6⟩
  · intro p e s m args below meth c s₁ B hml hP _
    have hh0 : s₁.heap = s.heap := by rw [B.state]; rfl
    have ht : ∀ x ∈ c.exceptionTable.toList, False := by
      obtain ⟨meth9, c9, h1, h2, -, -, -, -, h7, -⟩ := Cond.code_spec B.named (atoms_spec (ws := ws) B.pre _ (by rw [hw]; exact List.mem_cons_self))
      cases Option.some.inj (h1.symm.trans B.method)
      cases Option.some.inj (h2.symm.trans (Stand.of_body B).code)
      intro x hx
      rw [Array.isEmpty_iff.mp h7] at hx
      cases hx
    obtain ⟨t, a1, o, b1, b2, b3⟩ := body p e s m args below meth c s₁ B hml ht hP s₁ hh0 (Stand.of_body B)
    exact ⟨t, o, a1, b1, b2, b3⟩
/-- the table of a body with handlers -/
theorem vx_table {p : Program} {x y : MethodName} {S : Spec} {cc bytes : ByteArray} {maxL maxL' : Nat} {ret ret' : Option FieldType} {e : Env} {s s₁ : State} {m : MethodId} {args : Array Value} {below : List Frame} {meth : Method} {c : Code} {hh : List (Nat × Nat × Nat × Nat)}
    (B : BodyLoose p l y S cc maxL ret e s m args below meth c s₁) (h : (Cond.codeWith y bytes maxL' ret' hh).before args s = true) : c.exceptionTable.toList = tableOf hh := by
  obtain ⟨m9, meth9, c9, hn9, h1, h2, -, -, h6, -⟩ := Cond.codeWith_spec h
  cases Option.some.inj (hn9.symm.trans B.named)
  cases Option.some.inj (h1.symm.trans B.method)
  cases Option.some.inj (h2.symm.trans (Stand.of_body B).code)
  rw [← h6, table_eq]
end Bodies
end VXA
/-! ===== END ===== -/
/-! ===== BEGIN a static call of a method with an exception table ===== -/
section VXS
variable {p : Program} {l : Launch} {e : Env} {R : Room} {s : State} {m : MethodId} {args : Array Value} {below : List Frame} {meth : Method} {c : Code} {T : State} {H : Heap} {locs : List Loc} {cells slots : Nat}
abbrev vx_CSW (R : Room) (s : State) (args : Array Value) (own : String) (index : Nat) (y : MethodName) (bytes : ByteArray) (maxL : Nat) (ret : Option FieldType) (hh : List (Nat × Nat × Nat × Nat)) (ws : List Cond) (rm : Room) (mc ms n : Nat) : Prop :=
  (rm.cells = mc ∧ rm.slots = ms ∧ rm.frames + 1 ≤ R.frames ∧ 8 + (maxL + 11) + rm.locals ≤ R.locals ∧ (∀ w ∈ ws, ∀ (a' : Array Value) (U : State), s.WarmedH U.vm → w.before a' U = true) ∧ Cond.codeWith y bytes maxL ret hh ∈ ws) ∧
  (Cond.codeWith y bytes maxL ret hh).before args s = true ∧ (Cond.initialized y.cls).before args s = true ∧ (y.cls ≠ "java/lang/invoke/MethodHandle" ∧ y.cls ≠ "java/lang/invoke/VarHandle") ∧
  (∀ sig, parseMethodDescriptor y.desc = some sig → n = sig.parameters.length) ∧ (Cond.methodLink own index y).before args s = true ∧ (Cond.static y).before args s = true
theorem vx_cwSW {own : String} {index maxL mc ms : Nat} {y : MethodName} {bytes : ByteArray} {ret : Option FieldType} {hh : List (Nat × Nat × Nat × Nat)} {Ts ws ws' : List Cond} {rm : Room} (n : Nat) (ht : ∀ w ∈ Ts, w.before args s = true) (hT : GoodIn Ts (va_wsS own index y ws)) (hw : ws = Cond.codeWith y bytes maxL ret hh :: ws') (hrc : rm.cells = mc) (hrs : rm.slots = ms)
    (hd : y.cls ≠ "java/lang/invoke/MethodHandle" ∧ y.cls ≠ "java/lang/invoke/VarHandle" ∧ (parseMethodDescriptor y.desc).map (fun d => d.parameters.length) = some n) (hR : rm.frames + 1 ≤ R.frames ∧ 8 + (maxL + 11) + rm.locals ≤ R.locals) :
    vx_CSW R s args own index y bytes maxL ret hh ws rm mc ms n := by
  have ok : ∀ w ∈ va_wsS own index y ws, w.before args s = true := fun w h => ht w (hT w h).1
  have hG : GoodIn Ts ws := fun w h => hT w (by unfold va_wsS; exact List.mem_append_right _ h)
  have hc : Cond.codeWith y bytes maxL ret hh ∈ ws := by rw [hw]; exact List.mem_cons_self
  refine ⟨⟨hrc, hrs, hR.1, hR.2, pay_in ht hG, hc⟩, ht _ (hG _ hc).1, ok _ (by simp [va_wsS]), ⟨hd.1, hd.2.1⟩, fun sig h => ?_, ok _ (by simp [va_wsS]), ok _ (by simp [va_wsS])⟩
  have h2 := hd.2.2
  rw [h] at h2
  exact (Option.some.inj h2).symm
theorem vx_callSW (X : Stand p l e R s m args below meth c T locs cells slots) (hexec : p.tables.exec = Jvm.exec) {own : String} {index : Nat} {y : MethodName} {bytes : ByteArray} {maxL : Nat} {ret : Option FieldType} {hh : List (Nat × Nat × Nat × Nat)}
    (hown : s.vm.findClass own = some m.cls) (hlink : (Cond.methodLink own index y).before args s = true) (hstat : (Cond.static y).before args s = true) (hinit : (Cond.initialized y.cls).before args s = true)
    (hcode : (Cond.codeWith y bytes maxL ret hh).before args s = true) (hy : y.cls ≠ "java/lang/invoke/MethodHandle" ∧ y.cls ≠ "java/lang/invoke/VarHandle")
    {W9 : Nat} {Pre : Pt → Array Value → Prop} {Post : Pt → Array Value → Option Value → Pt → Prop} (hK : Back l R p e below s args y 3 W9 Pre Post)
    {g : JFrame} (hg : g.method = m) (hsize : g.locals.size = c.maxLocals) {argsL rest : List Value} (hlen : ∀ sig, parseMethodDescriptor y.desc = some sig → argsL.length = sig.parameters.length)
    (hstack : g.stack = argsL.reverse ++ rest) (hW : 2 * g.monitorRoom + (rest.map fun v => v.category).sum ≤ W9) (hdg : decode c.code g.pc = .ok (.invokestatic index, 3))
    (hpre : ∀ vm₁, s.WarmedH vm₁ → Pre ⟨T.setVm vm₁, locs, cells, slots⟩ argsL.toArray) :
    ∃ (v : Option Value) (vm₁ : Vm) (B : Pt), s.WarmedH vm₁ ∧ Stand p l e R s m args below meth c B.U B.locs B.cells B.slots ∧ Post ⟨T.setVm vm₁, locs, cells, slots⟩ argsL.toArray v B ∧
      ∀ target, Steps p.tables e below (B.U.setTop { g with pc := g.pc + 3, stack := v.toList ++ rest }) target → Steps p.tables e below (T.setTop g) target := by
  obtain ⟨mk, methM, cM, hnamed, hmethM, -, -, -, -, -, -, hsigM⟩ := Cond.codeWith_spec hcode
  have hstatic : methM.isStatic = true := Cond.static_spec hnamed hmethM hstat
  obtain ⟨kP, hkP, -⟩ := className_of_methodNamed hnamed
  have hinitP : kP.init = .initialized := Cond.initialized_spec (findClass_of_methodNamed hnamed) hkP hinit
  obtain ⟨vm₁, X₁, hstep₁⟩ := X.invokestatic hexec hown hlink hnamed hmethM hstatic hkP hinitP hy (g := g) hg (argsL := argsL) (rest := rest) (hlen _ hsigM) hstack hdg
  obtain ⟨v, B, X', hpost, hsteps⟩ := hK m meth c ⟨T.setVm vm₁, locs, cells, slots⟩ { g with stack := rest } (.invokestatic index) mk argsL.toArray X₁ hg hsize hdg hW (X₁.named hnamed) (hpre vm₁ X₁.warmed)
  exact ⟨v, vm₁, B, X₁.warmed, X', hpost, fun target h => hstep₁ _ fun acts => by rw [doInvoke_state]; exact hsteps.trans h⟩
theorem vx_runSW {y : MethodName} {bytes cc : ByteArray} {maxL nL mc ms n index : Nat} {ret : Option FieldType} {hh : List (Nat × Nat × Nat × Nat)} {ws : List Cond} {rm : Room} {Pc : Array Value → State → Prop} {Qc : Array Value → State → Outcome → State → Prop} {free : Addr → Prop} {Ts : List Cond} {own : String} {As rest : List Value} {g : JFrame}
    (S : CallFix p m c cc nL s args Ts own) (hM : Met l y ws rm Pc Qc mc ms free) (cw : vx_CSW R s args own index y bytes maxL ret hh ws rm mc ms n) (hp : PreS s H Pc As)
    (hg : g.method = m) (hn : As.length = n) (hsize : g.locals.size = nL) (hstack : g.stack = As.reverse ++ rest) (hW : 2 * g.monitorRoom + (rest.map fun v => v.category).sum ≤ 8) (hdg : decode cc g.pc = .ok (.invokestatic index, 3)) (hf : cells + mc ≤ R.cells ∧ slots + ms ≤ R.slots) :
    va_Run p l e R s m args below meth c H locs cells slots mc ms g rest (Qc As.toArray) (free) := by
  obtain ⟨⟨hrc, hrs, hfr, hlo, hws, hcw⟩, hcode, hini, hy, hlen, hl, hstt⟩ := cw
  have hK : Back l R p e below s args y 3 8 (PreOf R mc ms Pc) (PostOf Qc mc ms free) := va_backW (hh := hh) (bytes := bytes) (maxL := maxL) (ret := ret) hM hp.1 hrc hrs hfr hlo hws hcw (fun a' U hW => word_at hW (Or.inl (by first | rfl | simp [Cond.onTables, Cond.keeps, Cond.steady])) hini)
  obtain ⟨hx, hb, hml, ho, -⟩ := S
  intro T hT X
  obtain ⟨v, vm₁, ⟨U', l2, c2, s2⟩, hW₁, X', ⟨g', mk, t, L, e1, e2, hq, h1, hL, h2, h3⟩, st⟩ := vx_callSW X hx (hh := hh) (bytes := bytes) (maxL := maxL) (ret := ret) ho hl hstt hini hcode hy hK hg (hsize.trans hml.symm) (argsL := As) (rest := rest) (fun sig h => hn.trans (hlen sig h)) hstack hW (by rw [hb]; exact hdg)
    (fun vm₁ hW₁ => ⟨hf.1, hf.2, hp.2 (T.setVm vm₁) hT hW₁⟩)
  dsimp only [Pt.U, Pt.locs, Pt.cells, Pt.slots] at X' e1 e2 h1 h2 h3 st
  subst h1; subst h2; subst h3
  exact ⟨v, (T.setVm vm₁).calling g' mk As.toArray, t, U', L, hT, X', hL, e1, e2, hq, st⟩
/-- not caught here, past rows that name other classes: it goes on to the caller -/
theorem vx_outP {p : Program} {l : Launch} {e : Env} {R : Room} {s : State} {m : MethodId} {args : Array Value} {below : List Frame} {meth : Method} {c : Code} {H : Heap} {locs : List Loc} {cells slots : Nat} {free : Addr → Prop} {ls : Array Slot} {rest : List Value} {Qc : Array Value → State → Outcome → State → Prop} {XC : String → State → State → Prop}
    {pc : Nat} {own E : String} {ce : Cell} {q : Addr} {mc ms : Nat} (hown : s.vm.findClass own = some m.cls) (hlocks : meth.locks = false)
    (hpass : ∀ z ∈ c.exceptionTable.toList, covers z pc = false ∨ (z.catchType ≠ 0 ∧ ∃ nm : String, (Cond.classLink own z.catchType nm).before args s = true ∧ va_Nc E nm s)) (hcell : H[q]? = some ce) (hv : ce.vm = .none) (hcl : s.vm.findClass E = some ce.cls)
    (hx : ∀ t : State, t.heap = H → s.vm.Alike t.vm → XC E s t) (hf : ∀ z ∈ locs, free z.base) (hc : cells ≤ mc) (hs : slots ≤ ms) :
    vx_W p l e R s m args below meth c H locs cells slots (vx_MQ below Qc XC args s mc ms free) (F0 m pc ls rest) q := by
  intro T hT X
  have hpl : e.platform.magicAccessors = ({} : Platform).magicAccessors := by rw [X.admits.platform]
  obtain ⟨vm', hW', X', st⟩ := X.outThrough hlocks q (g := F0 m pc ls rest) rfl rfl rfl (cell := ce) (by rw [hT]; exact hcell) (by rw [hv]; rfl)
    (by obtain ⟨k9, h9, -⟩ := Vm.findClass_spec hcl; exact ⟨k9, h9⟩) (fun z hz => by
      rcases hpass z hz with h | ⟨hz0, nm, hl1, hn1⟩
      · exact Or.inl h
      · obtain ⟨c6, hc6, hcl6⟩ := Cond.classLink_spec hown hl1 e.platform hpl
        obtain ⟨a8, b8, h1, h2, h3⟩ := hn1
        cases Option.some.inj (h1.symm.trans hcl)
        cases Option.some.inj (h2.symm.trans hc6)
        exact Or.inr ⟨hz0, _, hcl6, h3⟩)
  obtain ⟨g₀, hfr⟩ := X'.frames_eq
  have hcell9 : ((T.setVm vm').setFrames (.throwing q :: below)).heap[q]? = some ce := by
    show T.heap[q]? = some ce
    rw [hT]; exact hcell
  have hend : Ended ((T.setVm vm').setFrames (.throwing q :: below)) below (.threw q) := State.frames_setFrames _ (State.cur_lt_of_frames hfr)
  refine ⟨(T.setVm vm').setFrames (.throwing q :: below), ?_, .threw q, X'.here.running, hend, Or.inr ⟨q, rfl, E, ce, locs, hx _ hT (X'.ends _).1.alike, hcell9, hv, hcl, (X'.ends _).1, (X'.ends _).2.mono hc hs, hf⟩⟩
  rw [X.pushThrowing_eq]
  exact st
/-- a thing of a world lies in the heap -/
theorem vx_lt {D : va_G} {cl : List vw_C} {ws : va_W} {H1 : Heap} (h : va_P D cl ws H1) {k : Nat} {q : Nat × va_E} (hk : ws[k]? = some q) : q.1 < H1.size := (h k q hk).lt
end VXS
/-! ===== END ===== -/
/-! ===== BEGIN methods with a table of their own: called by a name, returning or throwing ===== -/
section VXH
/-! vx_backW, vx_callVX, vx_callSX, vx_callVW, vx_runVW, vx_runVX, vx_runSX, vx_ofWH follow the same proofs as their sisters above (Free/Laws.lean, Shelf42/LK1.lean); vx_outP calls Shelf42/NT130.lean (outThrough). -/
section
variable {l : Launch} {R : Room} {p : Program} {e : Env} {below : List Frame} {s : State} {sargs : Array Value} {y : MethodName} {len W9 : Nat}
theorem vx_backW {ws : List Cond} {rm : Room} {Pc : Array Value → State → Prop} {Qc : Array Value → State → Outcome → State → Prop} {XC : String → State → State → Prop} {mc ms : Nat} {free : Addr → Prop} {bytes : ByteArray} {maxL : Nat} {ret : Option FieldType} {hh : List (Nat × Nat × Nat × Nat)}
    (hM : vx_Met l y ws rm Pc Qc XC mc ms free) (hblind : FrameBlind Pc) (hrc : rm.cells = mc) (hrs : rm.slots = ms)
    (hframes : rm.frames + 1 ≤ R.frames) (hlocals : W9 + (maxL + 11) + rm.locals ≤ R.locals)
    (hws : ∀ w ∈ ws, ∀ a' U, s.WarmedH U.vm → w.before a' U = true) (hcode : Cond.codeWith y bytes maxL ret hh ∈ ws) (hinit : ∀ a' U, s.WarmedH U.vm → (Cond.initialized y.cls).before a' U = true) :
    vx_Back l R p e below s sargs y len W9 (PreOf R mc ms Pc) (PostOf Qc mc ms free) (vx_Post XC mc ms free) := by
  intro m meth c A g ig mk a X hg hsize hdg hW hn hp
  have h1 : (headSpec ws rm).pre.before a A.U = true := atoms_intro fun w hw => hws w hw _ _ X.warmed
  have h2 : (Cond.codeWith y bytes maxL ret hh).before a A.U = true := hws _ hcode _ _ X.warmed
  have h3 : (Cond.initialized y.cls).before a A.U = true := hinit _ _ X.warmed
  have h4 : A.cells + (headSpec ws rm).room.cells ≤ R.cells := by rw [show (headSpec ws rm).room.cells = mc from hrc]; exact hp.1
  have h5 : A.slots + (headSpec ws rm).room.slots ≤ R.slots := by rw [show (headSpec ws rm).room.slots = ms from hrs]; exact hp.2.1
  have hPc : Pc a (A.U.calling g mk a) := hblind _ _ _ _ hp.2.2
  obtain ⟨U, Ls, c0, s0⟩ := A
  dsimp only [Pt.U, Pt.locs, Pt.cells, Pt.slots] at h1 h2 h3 h4 h5 X hn hPc ⊢
  obtain ⟨m9, methY, cY, hn9, hmY, hcY, -, hlY, -⟩ := Cond.codeWith_spec h2
  cases Option.some.inj (hn9.symm.trans hn)
  obtain ⟨kY, hkY, -⟩ := className_of_methodNamed hn
  have hinitY : kY.init = .initialized := Cond.initialized_spec (findClass_of_methodNamed hn) hkY h3
  have h : At U g.method c below := by rw [hg]; exact X.here
  have hlocals9 : W9 + (maxL + 11) + (headSpec ws rm).room.locals ≤ R.locals := hlocals
  have happ : (headSpec ws rm).appliesLoose y e.platform (U.calling g mk a) = true :=
    Spec.appliesLoose_calling (g := g) h hdg hn hkY hinitY
      (X.room_calling (g := g) (R' := (headSpec ws rm).room) hsize hmY hcY hframes (by rw [hlY]; omega) h4 h5) h1
  obtain ⟨mid, hmid⟩ := h.above
  have hfr : (U.setTop g).frames = (.java g :: mid) ++ below := by rw [State.frames_setTop' g h.top, hmid]; rfl
  obtain ⟨o, s₂, hsteps, -, hend, hq⟩ := Steps.callFree hM p X.admits X.cas X.clock (acts := []) hfr happ hPc trivial
  have hq' : vx_Q Qc XC mc ms free a (U.calling g mk a) o s₂ := hq
  rw [State.frames_setTop' g h.top] at hend
  obtain ⟨g₀, hg0⟩ := Option.isSome_iff_exists.mp h.top
  obtain ⟨r, hr⟩ := State.topJava?_eq_some.mp hg0
  have hr' : (({ U with heap := s₂.heap, slotsUsed := s₂.slotsUsed } : State).setVm s₂.vm).frames = .java g₀ :: r := hr
  rcases hq' with ⟨hqc, L, hfe, hL⟩ | ⟨q, rfl, E, ce, L, hx, hce, hcv, hcl, hW₂, hsm, hL⟩
  · obtain ⟨⟨v, rfl⟩, hW₂, e2, q2, q3, q4, q5, q6⟩ := id hfe
    have e3 : s₂ = ({ (U.calling g mk a).setFrames s₂.frames with heap := s₂.heap, slotsUsed := s₂.slotsUsed } : State).setVm s₂.vm := by
      have : s₂ = ({ s₂ with vm := (U.calling g mk a).vm } : State).setVm s₂.vm := rfl
      rw [e2] at this
      exact this
    obtain ⟨c₂, i₂, len₂, hc₂, hd₂, hf₂⟩ := hend
    have hW' : U.WarmedH s₂.vm := hW₂
    have hcc : c₂ = c := by
      have h1 : s₂.code? g.method = U.code? g.method := by
        rw [State.code?_eq, State.code?_eq, hW'.alike.method?]
      exact Option.some.inj (hc₂.symm.trans (h1.trans h.code))
    subst hcc
    have hlen : len₂ = len := by rw [hdg] at hd₂; cases hd₂; rfl
    subst hlen
    have hs₂ : s₂ = (({ U with heap := s₂.heap, slotsUsed := s₂.slotsUsed } : State).setVm s₂.vm).setTop { g with pc := g.pc + len₂, stack := v.toList ++ g.stack } := by
      refine e3.trans ?_
      rw [hf₂, State.calling_eq h.top, State.setFrames_setFrames, State.setTop_of_frames _ hr', hr]
      rfl
    have hsame : U.sameButNew ({ U with heap := s₂.heap, slotsUsed := s₂.slotsUsed } : State) L mc ms := by
      refine ⟨?_, q2, q3, q4, q5, q6⟩
      obtain ⟨t, ht, -⟩ := State.frames_cons hr
      show ({ U with heap := s₂.heap, slotsUsed := s₂.slotsUsed } : State) = { U.setFrames U.frames with heap := s₂.heap, slotsUsed := s₂.slotsUsed }
      rw [State.setFrames_self ht]
    subst hg
    refine Or.inl ⟨v, ⟨(({ U with heap := s₂.heap, slotsUsed := s₂.slotsUsed } : State).setVm s₂.vm), Ls ++ L, c0 + mc, s0 + ms⟩,
      ⟨X.admits, X.cas, X.clock, X.frames, X.room, X.hears, X.method, X.code, (X.here.setHeapUsed s₂.heap s₂.slotsUsed).setVm hW'.alike, X.tail, State.WarmedH.trans X.warmed hW', X.limits, X.bytes, X.same.trans (hsame.setVm s.vm)⟩,
      ⟨g, mk, s₂, L, rfl, rfl, hqc, rfl, hL, rfl, rfl⟩, ?_⟩
    show Steps p.tables e below _ ((({ U with heap := s₂.heap, slotsUsed := s₂.slotsUsed } : State).setVm s₂.vm).setTop { g with pc := g.pc + len₂, stack := v.toList ++ g.stack })
    rw [← hs₂]
    exact hsteps
  · obtain ⟨e2, q2, q3, q4, q5, q6⟩ := id hsm
    have e3 : s₂ = ({ (U.calling g mk a).setFrames s₂.frames with heap := s₂.heap, slotsUsed := s₂.slotsUsed } : State).setVm s₂.vm := by
      have : s₂ = ({ s₂ with vm := (U.calling g mk a).vm } : State).setVm s₂.vm := rfl
      rw [e2] at this
      exact this
    have hf₂ : s₂.frames = .throwing q :: .java g :: U.frames.tail := hend
    have hW' : U.WarmedH s₂.vm := hW₂
    have hs₂ : s₂ = ((({ U with heap := s₂.heap, slotsUsed := s₂.slotsUsed } : State).setVm s₂.vm).setTop g).pushFrame (.throwing q) := by
      refine e3.trans ?_
      rw [hf₂, State.calling_eq h.top, State.setFrames_setFrames, State.pushFrame, State.frames_setTop _ hr', State.setTop_of_frames _ hr', State.setFrames_setFrames, hr]
      rfl
    have hsame : U.sameButNew ({ U with heap := s₂.heap, slotsUsed := s₂.slotsUsed } : State) L mc ms := by
      refine ⟨?_, q2, q3, q4, q5, q6⟩
      obtain ⟨t, ht, -⟩ := State.frames_cons hr
      show ({ U with heap := s₂.heap, slotsUsed := s₂.slotsUsed } : State) = { U.setFrames U.frames with heap := s₂.heap, slotsUsed := s₂.slotsUsed }
      rw [State.setFrames_self ht]
    subst hg
    refine Or.inr ⟨q, ⟨(({ U with heap := s₂.heap, slotsUsed := s₂.slotsUsed } : State).setVm s₂.vm), Ls ++ L, c0 + mc, s0 + ms⟩,
      ⟨X.admits, X.cas, X.clock, X.frames, X.room, X.hears, X.method, X.code, (X.here.setHeapUsed s₂.heap s₂.slotsUsed).setVm hW'.alike, X.tail, State.WarmedH.trans X.warmed hW', X.limits, X.bytes, X.same.trans (hsame.setVm s.vm)⟩,
      ⟨g, mk, s₂, L, E, ce, rfl, rfl, hx, hce, hcv, hcl, rfl, hL, rfl, rfl⟩, ?_⟩
    show Steps p.tables e below _ (((({ U with heap := s₂.heap, slotsUsed := s₂.slotsUsed } : State).setVm s₂.vm).setTop g).pushFrame (.throwing q))
    rw [← hs₂]
    exact hsteps
end
variable {p : Program} {l : Launch} {e : Env} {R : Room} {s : State} {m : MethodId} {args : Array Value} {below : List Frame} {meth : Method} {c : Code} {T : State} {H : Heap} {locs : List Loc} {cells slots : Nat}
theorem vx_callVX (X : Stand p l e R s m args below meth c T locs cells slots) (hexec : p.tables.exec = Jvm.exec) {own C : String} {index : Nat} {y : MethodName} {bytes : ByteArray} {maxL : Nat} {ret : Option FieldType} {hh : List (Nat × Nat × Nat × Nat)}
    (hown : s.vm.findClass own = some m.cls) (hlink : (Cond.methodLink own index y).before args s = true) (hinst : (Cond.instanceMethod y).before args s = true) (hsel : (Cond.selects C y y).before args s = true)
    (hcode : (Cond.codeWith y bytes maxL ret hh).before args s = true) (hy : y.cls ≠ "java/lang/invoke/MethodHandle" ∧ y.cls ≠ "java/lang/invoke/VarHandle")
    {W9 : Nat} {Pre : Pt → Array Value → Prop} {Post : Pt → Array Value → Option Value → Pt → Prop} {PostX : Pt → Array Value → Addr → Pt → Prop} (hK : vx_Back l R p e below s args y 3 W9 Pre Post PostX)
    {b : Addr} {cellB : Cell} (hcell : T.heap[b]? = some cellB) (hobj : cellB.vm.isStatics = false) (hcls : s.vm.findClass C = some cellB.cls)
    {g : JFrame} (hg : g.method = m) (hsize : g.locals.size = c.maxLocals) {argsL rest : List Value} (hlen : ∀ sig, parseMethodDescriptor y.desc = some sig → argsL.length = sig.parameters.length)
    (hstack : g.stack = argsL.reverse ++ .ref b :: rest) (hW : 2 * g.monitorRoom + (rest.map fun v => v.category).sum ≤ W9) (hdg : decode c.code g.pc = .ok (.invokevirtual index, 3))
    (hpre : ∀ vm₁, s.WarmedH vm₁ → Pre ⟨T.setVm vm₁, locs, cells, slots⟩ (Value.ref b :: argsL).toArray) :
    (∃ (v : Option Value) (vm₁ : Vm) (B : Pt), s.WarmedH vm₁ ∧ Stand p l e R s m args below meth c B.U B.locs B.cells B.slots ∧ Post ⟨T.setVm vm₁, locs, cells, slots⟩ (Value.ref b :: argsL).toArray v B ∧
      ∀ target, Steps p.tables e below (B.U.setTop { g with pc := g.pc + 3, stack := v.toList ++ rest }) target → Steps p.tables e below (T.setTop g) target) ∨
    (∃ (q : Addr) (vm₁ : Vm) (B : Pt), s.WarmedH vm₁ ∧ Stand p l e R s m args below meth c B.U B.locs B.cells B.slots ∧ PostX ⟨T.setVm vm₁, locs, cells, slots⟩ (Value.ref b :: argsL).toArray q B ∧
      Steps p.tables e below (T.setTop g) ((B.U.setTop { g with stack := rest }).pushFrame (.throwing q))) := by
  obtain ⟨mk, methM, hnamed, hmethM, hstM, habM⟩ := Cond.instanceMethod_spec hinst
  obtain ⟨m8, methM', cM, hn8, hmethM', -, -, -, -, -, -, hsigM⟩ := Cond.codeWith_spec hcode
  cases Option.some.inj (hn8.symm.trans hnamed)
  cases hmethM.symm.trans hmethM'
  obtain ⟨c2, r2, m2, q1, q2, q3, q4, kP, hkP, hkPi⟩ := Cond.selects_spec hsel
  cases hcls.symm.trans q1
  cases (State.methodFound?_of_named hnamed hy).symm.trans q2
  cases hnamed.symm.trans q3
  have hselP : selectMethod e.platform s.vm cellB.cls mk = .method mk := by rw [Launch.admits_selectMethod X.admits]; exact q4
  obtain ⟨vm₁, X₁, hstep₁⟩ := X.invokevirtual hexec hown hlink hnamed hmethM hstM hkP hkPi hy (a := b) (cell := cellB) hcell
    (fun z h => by rw [h] at hobj; cases hobj) hselP hmethM habM hkP hkPi (g := g) hg (argsL := argsL) (rest := rest) (hlen _ hsigM) hstack hdg
  rcases hK m meth c ⟨T.setVm vm₁, locs, cells, slots⟩ { g with stack := rest } (.invokevirtual index) mk (Value.ref b :: argsL).toArray X₁ hg hsize hdg hW (X₁.named hnamed) (hpre vm₁ X₁.warmed) with ⟨v, B, X', hpost, hsteps⟩ | ⟨q, B, X', hpost, hsteps⟩
  · exact Or.inl ⟨v, vm₁, B, X₁.warmed, X', hpost, fun target h => hstep₁ _ fun acts => by rw [doInvoke_state]; exact hsteps.trans h⟩
  · exact Or.inr ⟨q, vm₁, B, X₁.warmed, X', hpost, hstep₁ _ fun acts => by rw [doInvoke_state]; exact hsteps⟩
theorem vx_callSX (X : Stand p l e R s m args below meth c T locs cells slots) (hexec : p.tables.exec = Jvm.exec) {own : String} {index : Nat} {y : MethodName} {bytes : ByteArray} {maxL : Nat} {ret : Option FieldType} {hh : List (Nat × Nat × Nat × Nat)}
    (hown : s.vm.findClass own = some m.cls) (hlink : (Cond.methodLink own index y).before args s = true) (hstat : (Cond.static y).before args s = true) (hinit : (Cond.initialized y.cls).before args s = true)
    (hcode : (Cond.codeWith y bytes maxL ret hh).before args s = true) (hy : y.cls ≠ "java/lang/invoke/MethodHandle" ∧ y.cls ≠ "java/lang/invoke/VarHandle")
    {W9 : Nat} {Pre : Pt → Array Value → Prop} {Post : Pt → Array Value → Option Value → Pt → Prop} {PostX : Pt → Array Value → Addr → Pt → Prop} (hK : vx_Back l R p e below s args y 3 W9 Pre Post PostX)
    {g : JFrame} (hg : g.method = m) (hsize : g.locals.size = c.maxLocals) {argsL rest : List Value} (hlen : ∀ sig, parseMethodDescriptor y.desc = some sig → argsL.length = sig.parameters.length)
    (hstack : g.stack = argsL.reverse ++ rest) (hW : 2 * g.monitorRoom + (rest.map fun v => v.category).sum ≤ W9) (hdg : decode c.code g.pc = .ok (.invokestatic index, 3))
    (hpre : ∀ vm₁, s.WarmedH vm₁ → Pre ⟨T.setVm vm₁, locs, cells, slots⟩ argsL.toArray) :
    (∃ (v : Option Value) (vm₁ : Vm) (B : Pt), s.WarmedH vm₁ ∧ Stand p l e R s m args below meth c B.U B.locs B.cells B.slots ∧ Post ⟨T.setVm vm₁, locs, cells, slots⟩ argsL.toArray v B ∧
      ∀ target, Steps p.tables e below (B.U.setTop { g with pc := g.pc + 3, stack := v.toList ++ rest }) target → Steps p.tables e below (T.setTop g) target) ∨
    (∃ (q : Addr) (vm₁ : Vm) (B : Pt), s.WarmedH vm₁ ∧ Stand p l e R s m args below meth c B.U B.locs B.cells B.slots ∧ PostX ⟨T.setVm vm₁, locs, cells, slots⟩ argsL.toArray q B ∧
      Steps p.tables e below (T.setTop g) ((B.U.setTop { g with stack := rest }).pushFrame (.throwing q))) := by
  obtain ⟨mk, methM, cM, hnamed, hmethM, -, -, -, -, -, -, hsigM⟩ := Cond.codeWith_spec hcode
  have hstatic : methM.isStatic = true := Cond.static_spec hnamed hmethM hstat
  obtain ⟨kP, hkP, -⟩ := className_of_methodNamed hnamed
  have hinitP : kP.init = .initialized := Cond.initialized_spec (findClass_of_methodNamed hnamed) hkP hinit
  obtain ⟨vm₁, X₁, hstep₁⟩ := X.invokestatic hexec hown hlink hnamed hmethM hstatic hkP hinitP hy (g := g) hg (argsL := argsL) (rest := rest) (hlen _ hsigM) hstack hdg
  rcases hK m meth c ⟨T.setVm vm₁, locs, cells, slots⟩ { g with stack := rest } (.invokestatic index) mk argsL.toArray X₁ hg hsize hdg hW (X₁.named hnamed) (hpre vm₁ X₁.warmed) with ⟨v, B, X', hpost, hsteps⟩ | ⟨q, B, X', hpost, hsteps⟩
  · exact Or.inl ⟨v, vm₁, B, X₁.warmed, X', hpost, fun target h => hstep₁ _ fun acts => by rw [doInvoke_state]; exact hsteps.trans h⟩
  · exact Or.inr ⟨q, vm₁, B, X₁.warmed, X', hpost, hstep₁ _ fun acts => by rw [doInvoke_state]; exact hsteps⟩
theorem vx_callVW (X : Stand p l e R s m args below meth c T locs cells slots) (hexec : p.tables.exec = Jvm.exec) {own C : String} {index : Nat} {y : MethodName} {bytes : ByteArray} {maxL : Nat} {ret : Option FieldType} {hh : List (Nat × Nat × Nat × Nat)}
    (hown : s.vm.findClass own = some m.cls) (hlink : (Cond.methodLink own index y).before args s = true) (hinst : (Cond.instanceMethod y).before args s = true) (hsel : (Cond.selects C y y).before args s = true)
    (hcode : (Cond.codeWith y bytes maxL ret hh).before args s = true) (hy : y.cls ≠ "java/lang/invoke/MethodHandle" ∧ y.cls ≠ "java/lang/invoke/VarHandle")
    {W9 : Nat} {Pre : Pt → Array Value → Prop} {Post : Pt → Array Value → Option Value → Pt → Prop} (hK : Back l R p e below s args y 3 W9 Pre Post)
    {b : Addr} {cellB : Cell} (hcell : T.heap[b]? = some cellB) (hobj : cellB.vm.isStatics = false) (hcls : s.vm.findClass C = some cellB.cls)
    {g : JFrame} (hg : g.method = m) (hsize : g.locals.size = c.maxLocals) {argsL rest : List Value} (hlen : ∀ sig, parseMethodDescriptor y.desc = some sig → argsL.length = sig.parameters.length)
    (hstack : g.stack = argsL.reverse ++ .ref b :: rest) (hW : 2 * g.monitorRoom + (rest.map fun v => v.category).sum ≤ W9) (hdg : decode c.code g.pc = .ok (.invokevirtual index, 3))
    (hpre : ∀ vm₁, s.WarmedH vm₁ → Pre ⟨T.setVm vm₁, locs, cells, slots⟩ (Value.ref b :: argsL).toArray) :
    ∃ (v : Option Value) (vm₁ : Vm) (B : Pt), s.WarmedH vm₁ ∧ Stand p l e R s m args below meth c B.U B.locs B.cells B.slots ∧ Post ⟨T.setVm vm₁, locs, cells, slots⟩ (Value.ref b :: argsL).toArray v B ∧
      ∀ target, Steps p.tables e below (B.U.setTop { g with pc := g.pc + 3, stack := v.toList ++ rest }) target → Steps p.tables e below (T.setTop g) target := by
  obtain ⟨mk, methM, hnamed, hmethM, hstM, habM⟩ := Cond.instanceMethod_spec hinst
  obtain ⟨m8, methM', cM, hn8, hmethM', -, -, -, -, -, -, hsigM⟩ := Cond.codeWith_spec hcode
  cases Option.some.inj (hn8.symm.trans hnamed)
  cases hmethM.symm.trans hmethM'
  obtain ⟨c2, r2, m2, q1, q2, q3, q4, kP, hkP, hkPi⟩ := Cond.selects_spec hsel
  cases hcls.symm.trans q1
  cases (State.methodFound?_of_named hnamed hy).symm.trans q2
  cases hnamed.symm.trans q3
  have hselP : selectMethod e.platform s.vm cellB.cls mk = .method mk := by rw [Launch.admits_selectMethod X.admits]; exact q4
  obtain ⟨vm₁, X₁, hstep₁⟩ := X.invokevirtual hexec hown hlink hnamed hmethM hstM hkP hkPi hy (a := b) (cell := cellB) hcell
    (fun z h => by rw [h] at hobj; cases hobj) hselP hmethM habM hkP hkPi (g := g) hg (argsL := argsL) (rest := rest) (hlen _ hsigM) hstack hdg
  obtain ⟨v, B, X', hpost, hsteps⟩ := hK m meth c ⟨T.setVm vm₁, locs, cells, slots⟩ { g with stack := rest } (.invokevirtual index) mk (Value.ref b :: argsL).toArray X₁ hg hsize hdg hW (X₁.named hnamed) (hpre vm₁ X₁.warmed)
  exact ⟨v, vm₁, B, X₁.warmed, X', hpost, fun target h => hstep₁ _ fun acts => by rw [doInvoke_state]; exact hsteps.trans h⟩
abbrev vx_CVW (R : Room) (s : State) (args : Array Value) (own C : String) (index : Nat) (y : MethodName) (bytes : ByteArray) (maxL : Nat) (ret : Option FieldType) (hh : List (Nat × Nat × Nat × Nat)) (ws : List Cond) (rm : Room) (mc ms n : Nat) : Prop :=
  (rm.cells = mc ∧ rm.slots = ms ∧ rm.frames + 1 ≤ R.frames ∧ 8 + (maxL + 11) + rm.locals ≤ R.locals ∧ (∀ w ∈ ws, ∀ (a' : Array Value) (U : State), s.WarmedH U.vm → w.before a' U = true) ∧ Cond.codeWith y bytes maxL ret hh ∈ ws) ∧
  (Cond.codeWith y bytes maxL ret hh).before args s = true ∧ (Cond.initialized y.cls).before args s = true ∧ (y.cls ≠ "java/lang/invoke/MethodHandle" ∧ y.cls ≠ "java/lang/invoke/VarHandle") ∧
  (∀ sig, parseMethodDescriptor y.desc = some sig → n = sig.parameters.length) ∧ (Cond.methodLink own index y).before args s = true ∧ (Cond.instanceMethod y).before args s = true ∧ (Cond.selects C y y).before args s = true
theorem vx_cwVW {own C : String} {index maxL mc ms : Nat} {y : MethodName} {bytes : ByteArray} {ret : Option FieldType} {hh : List (Nat × Nat × Nat × Nat)} {Ts ws ws' : List Cond} {rm : Room} (n : Nat) (ht : ∀ w ∈ Ts, w.before args s = true) (hT : GoodIn Ts (wsV own index C y ws)) (hw : ws = Cond.codeWith y bytes maxL ret hh :: ws') (hrc : rm.cells = mc) (hrs : rm.slots = ms)
    (hd : y.cls = C ∧ y.cls ≠ "java/lang/invoke/MethodHandle" ∧ y.cls ≠ "java/lang/invoke/VarHandle" ∧ (parseMethodDescriptor y.desc).map (fun d => d.parameters.length) = some n) (hR : rm.frames + 1 ≤ R.frames ∧ 8 + (maxL + 11) + rm.locals ≤ R.locals) :
    vx_CVW R s args own C index y bytes maxL ret hh ws rm mc ms n := by
  obtain ⟨hC, hd⟩ := hd
  subst hC
  have ok : ∀ w ∈ wsV own index y.cls y ws, w.before args s = true := fun w h => ht w (hT w h).1
  have hG : GoodIn Ts ws := fun w h => hT w (by unfold wsV; exact List.mem_append_right _ h)
  have hc : Cond.codeWith y bytes maxL ret hh ∈ ws := by rw [hw]; exact List.mem_cons_self
  refine ⟨⟨hrc, hrs, hR.1, hR.2, pay_in ht hG, hc⟩, ht _ (hG _ hc).1, ok _ (by simp [wsV]), ⟨hd.1, hd.2.1⟩, fun sig h => ?_, ok _ (by simp [wsV]), ok _ (by simp [wsV]), ok _ (by simp [wsV])⟩
  have h2 := hd.2.2
  rw [h] at h2
  exact (Option.some.inj h2).symm
theorem vx_runVW {y : MethodName} {bytes cc : ByteArray} {maxL nL mc ms n index : Nat} {ret : Option FieldType} {hh : List (Nat × Nat × Nat × Nat)} {ws : List Cond} {rm : Room} {Pc : Array Value → State → Prop} {Qc : Array Value → State → Outcome → State → Prop} {free : Addr → Prop} {Ts : List Cond} {own C : String} {b : Addr} {As rest : List Value} {g : JFrame}
    (S : CallFix p m c cc nL s args Ts own) (hM : Met l y ws rm Pc Qc mc ms free) (cw : vx_CVW R s args own C index y bytes maxL ret hh ws rm mc ms n) (hp : PreV s H C b Pc As)
    (hg : g.method = m) (hn : As.length = n) (hsize : g.locals.size = nL) (hstack : g.stack = As.reverse ++ .ref b :: rest) (hW : 2 * g.monitorRoom + (rest.map fun v => v.category).sum ≤ 8) (hdg : decode cc g.pc = .ok (.invokevirtual index, 3)) (hf : cells + mc ≤ R.cells ∧ slots + ms ≤ R.slots) :
    va_Run p l e R s m args below meth c H locs cells slots mc ms g rest (Qc (Value.ref b :: As).toArray) free := by
  obtain ⟨⟨hrc, hrs, hfr, hlo, hws, hcw⟩, hcode, hini, hy, hlen, hl, hin, hse⟩ := cw
  have hK : Back l R p e below s args y 3 8 (PreOf R mc ms Pc) (PostOf Qc mc ms free) := va_backW (hh := hh) (bytes := bytes) (maxL := maxL) (ret := ret) hM hp.1 hrc hrs hfr hlo hws hcw (fun a' U hW => word_at hW (Or.inl (by first | rfl | simp [Cond.onTables, Cond.keeps, Cond.steady])) hini)
  obtain ⟨hx, hb, hml, ho, -⟩ := S
  obtain ⟨-, ⟨cellB, hcB, hoB, hclB⟩, hPc⟩ := hp
  intro T hT X
  obtain ⟨v, vm₁, ⟨U', l2, c2, s2⟩, hW₁, X', ⟨g', mk, t, L, e1, e2, hq, h1, hL, h2, h3⟩, st⟩ := vx_callVW X hx (C := C) (hh := hh) (bytes := bytes) (maxL := maxL) (ret := ret) ho hl hin hse hcode hy hK (by rw [hT]; exact hcB) hoB hclB hg (hsize.trans hml.symm) (argsL := As) (rest := rest) (fun sig h => hn.trans (hlen sig h)) hstack hW (by rw [hb]; exact hdg)
    (fun vm₁ hW₁ => ⟨hf.1, hf.2, hPc (T.setVm vm₁) hT hW₁⟩)
  dsimp only [Pt.U, Pt.locs, Pt.cells, Pt.slots] at X' e1 e2 h1 h2 h3 st
  subst h1; subst h2; subst h3
  exact ⟨v, (T.setVm vm₁).calling g' mk (Value.ref b :: As).toArray, t, U', L, hT, X', hL, e1, e2, hq, st⟩
section
variable {y : MethodName} {bytes cc : ByteArray} {maxL nL mc ms n index : Nat} {ret : Option FieldType} {ws : List Cond} {rm : Room} {Pc : Array Value → State → Prop} {Qc : Array Value → State → Outcome → State → Prop} {XC : String → State → State → Prop} {free : Addr → Prop} {Ts : List Cond} {own C : String} {b : Addr} {As rest : List Value} {g : JFrame}
theorem vx_runVX {hh : List (Nat × Nat × Nat × Nat)} (S : CallFix p m c cc nL s args Ts own) (hM : vx_Met l y ws rm Pc Qc XC mc ms free) (cw : vx_CVW R s args own C index y bytes maxL ret hh ws rm mc ms n) (hp : PreV s H C b Pc As)
    (hg : g.method = m) (hn : As.length = n) (hsize : g.locals.size = nL) (hstack : g.stack = As.reverse ++ .ref b :: rest) (hW : 2 * g.monitorRoom + (rest.map fun v => v.category).sum ≤ 8) (hdg : decode cc g.pc = .ok (.invokevirtual index, 3)) (hf : cells + mc ≤ R.cells ∧ slots + ms ≤ R.slots) :
    vx_Run p l e R s m args below meth c H locs cells slots mc ms g rest (Qc (Value.ref b :: As).toArray) XC free := by
  obtain ⟨⟨hrc, hrs, hfr, hlo, hws, hcw⟩, hcode, hini, hy, hlen, hl, hin, hse⟩ := cw
  have hK : vx_Back l R p e below s args y 3 8 (PreOf R mc ms Pc) (PostOf Qc mc ms free) (vx_Post XC mc ms free) := vx_backW (hh := hh) (bytes := bytes) (maxL := maxL) (ret := ret) hM hp.1 hrc hrs hfr hlo hws hcw (fun a' U hW => word_at hW (Or.inl (by first | rfl | simp [Cond.onTables, Cond.keeps, Cond.steady])) hini)
  obtain ⟨hx, hb, hml, ho, -⟩ := S
  obtain ⟨-, ⟨cellB, hcB, hoB, hclB⟩, hPc⟩ := hp
  intro T hT X
  rcases vx_callVX X hx (C := C) (hh := hh) (bytes := bytes) (maxL := maxL) (ret := ret) ho hl hin hse hcode hy hK (by rw [hT]; exact hcB) hoB hclB hg (hsize.trans hml.symm) (argsL := As) (rest := rest) (fun sig h => hn.trans (hlen sig h)) hstack hW (by rw [hb]; exact hdg)
    (fun vm₁ hW₁ => ⟨hf.1, hf.2, hPc (T.setVm vm₁) hT hW₁⟩) with ⟨v, vm₁, ⟨U', l2, c2, s2⟩, hW₁, X', ⟨g', mk, t, L, e1, e2, hq, h1, hL, h2, h3⟩, st⟩ | ⟨q, vm₁, ⟨U', l2, c2, s2⟩, hW₁, X', ⟨g', mk, t, L, E, ce, e1, e2, hq, hce, hcv, hcl, h1, hL, h2, h3⟩, st⟩
  · dsimp only [Pt.U, Pt.locs, Pt.cells, Pt.slots] at X' e1 e2 h1 h2 h3 st
    subst h1; subst h2; subst h3
    exact Or.inl ⟨v, (T.setVm vm₁).calling g' mk (Value.ref b :: As).toArray, t, U', L, hT, X', hL, e1, e2, hq, st⟩
  · dsimp only [Pt.U, Pt.locs, Pt.cells, Pt.slots] at X' e1 e2 h1 h2 h3 st hcl
    subst h1; subst h2; subst h3
    exact Or.inr ⟨q, (T.setVm vm₁).calling g' mk (Value.ref b :: As).toArray, t, U', L, E, ce, hT, X', hL, e1, e2, hq, hce, hcv, vx_cls hW₁ hcl, st⟩
theorem vx_runSX {hh : List (Nat × Nat × Nat × Nat)} (S : CallFix p m c cc nL s args Ts own) (hM : vx_Met l y ws rm Pc Qc XC mc ms free) (cw : vx_CSW R s args own index y bytes maxL ret hh ws rm mc ms n) (hp : PreS s H Pc As)
    (hg : g.method = m) (hn : As.length = n) (hsize : g.locals.size = nL) (hstack : g.stack = As.reverse ++ rest) (hW : 2 * g.monitorRoom + (rest.map fun v => v.category).sum ≤ 8) (hdg : decode cc g.pc = .ok (.invokestatic index, 3)) (hf : cells + mc ≤ R.cells ∧ slots + ms ≤ R.slots) :
    vx_Run p l e R s m args below meth c H locs cells slots mc ms g rest (Qc As.toArray) XC free := by
  obtain ⟨⟨hrc, hrs, hfr, hlo, hws, hcw⟩, hcode, hini, hy, hlen, hl, hstt⟩ := cw
  have hK : vx_Back l R p e below s args y 3 8 (PreOf R mc ms Pc) (PostOf Qc mc ms free) (vx_Post XC mc ms free) := vx_backW (hh := hh) (bytes := bytes) (maxL := maxL) (ret := ret) hM hp.1 hrc hrs hfr hlo hws hcw (fun a' U hW => word_at hW (Or.inl (by first | rfl | simp [Cond.onTables, Cond.keeps, Cond.steady])) hini)
  obtain ⟨hx, hb, hml, ho, -⟩ := S
  intro T hT X
  rcases vx_callSX X hx (hh := hh) (bytes := bytes) (maxL := maxL) (ret := ret) ho hl hstt hini hcode hy hK hg (hsize.trans hml.symm) (argsL := As) (rest := rest) (fun sig h => hn.trans (hlen sig h)) hstack hW (by rw [hb]; exact hdg)
    (fun vm₁ hW₁ => ⟨hf.1, hf.2, hp.2 (T.setVm vm₁) hT hW₁⟩) with ⟨v, vm₁, ⟨U', l2, c2, s2⟩, hW₁, X', ⟨g', mk, t, L, e1, e2, hq, h1, hL, h2, h3⟩, st⟩ | ⟨q, vm₁, ⟨U', l2, c2, s2⟩, hW₁, X', ⟨g', mk, t, L, E, ce, e1, e2, hq, hce, hcv, hcl, h1, hL, h2, h3⟩, st⟩
  · dsimp only [Pt.U, Pt.locs, Pt.cells, Pt.slots] at X' e1 e2 h1 h2 h3 st
    subst h1; subst h2; subst h3
    exact Or.inl ⟨v, (T.setVm vm₁).calling g' mk As.toArray, t, U', L, hT, X', hL, e1, e2, hq, st⟩
  · dsimp only [Pt.U, Pt.locs, Pt.cells, Pt.slots] at X' e1 e2 h1 h2 h3 st hcl
    subst h1; subst h2; subst h3
    exact Or.inr ⟨q, (T.setVm vm₁).calling g' mk As.toArray, t, U', L, E, ce, hT, X', hL, e1, e2, hq, hce, hcv, vx_cls hW₁ hcl, st⟩
end
end VXH
theorem vx_ofWH {l : Launch} {y : MethodName} {ws ws' : List Cond} {rm : Room} {Pc : Array Value → State → Prop} {Qc : Array Value → State → Outcome → State → Prop} {XC : String → State → State → Prop} {mc ms : Nat} {free : Addr → Prop} {cc : ByteArray} {maxL : Nat} {ret : Option FieldType} {hh : List (Nat × Nat × Nat × Nat)}
    (hy : plainName y.cls = true) (hw : ws = Cond.codeWith y cc maxL ret hh :: ws')
    (body : ∀ p e s m args below meth c s₁, BodyLoose p l y (headSpec ws rm) cc maxL ret e s m args below meth c s₁ → c.maxLocals = maxL → Pc args s →
      W p l e (headSpec ws rm).room s m args below meth c s.heap [] 0 0 (vx_MQ below Qc XC args s mc ms free) (entryFrame m args maxL)) : vx_Met l y ws rm Pc Qc XC mc ms free := by
  refine MetFree.of_bodyS (code := cc) (maxLocals := maxL) (ret := ret) hy ?_ ?_
  · intro args s m h hn
    obtain ⟨m9, meth, c, hn9, h1, h2, h3, h4, -, h5, h6, -⟩ := Cond.codeWith_spec (atoms_spec (ws := ws) h _ (by rw [hw]; exact List.mem_cons_self))
    cases hn.symm.trans hn9
    exact ⟨meth, c, h1, h2, h3, h4, h5, h6⟩
  · intro p e s m args below meth c s₁ B hml hP _
    have hh0 : s₁.heap = s.heap := by rw [B.state]; rfl
    obtain ⟨t, a1, o, b1, b2, b3⟩ := body p e s m args below meth c s₁ B hml hP s₁ hh0 (Stand.of_body B)
    exact ⟨t, o, a1, b1, b2, b3⟩
/-! ===== END ===== -/

/-! ===== BEGIN printed: names, fields, word lists, decode rows ===== -/
def RX0 : String := "Pointsbook$Depot"
def TX0 : u_T := fun k => match k with
  | 0 => ("Pointsbook$Depot", "number", "I", true)
  | 1 => ("Pointsbook$Depot", "above", "LPointsbook$Depot;", true)
  | _ => ("Pointsbook$Depot", "grams", "[I", true)
def tyX0 : Nat → FieldType := fun k => match k with
  | 0 => .int
  | 1 => .object "Pointsbook$Depot"
  | _ => .array .int
abbrev wsX00 : List Cond := u_ws RX0 TX0 3
theorem nmX0 : ∀ a, a < 3 → ∀ b, b < 3 → a ≠ b → (TX0 a).2.1 ≠ (TX0 b).2.1 := by decide +kernel
theorem tyX0_ok : ∀ k, k < 3 → parseFieldDescriptor (TX0 k).2.2.1 = some (tyX0 k) := by decide +kernel
abbrev cX0_init : ByteArray := prog_2_method_1_code
def yX0_init : MethodName := ⟨RX0, "<init>", "(ILPointsbook$Depot;)V"⟩
def RX1 : String := "Pointsbook$Farm"
def TX1 : u_T := fun k => match k with
  | 0 => ("Pointsbook$Farm", "target", "LPointsbook$Depot;", true)
  | 1 => ("Pointsbook$Farm", "good", "I", true)
  | 2 => ("Pointsbook$Farm", "quota", "I", true)
  | 3 => ("Pointsbook$Farm", "delivered", "I", false)
  | _ => ("Pointsbook$Farm", "failures", "I", false)
def tyX1 : Nat → FieldType := fun k => match k with
  | 0 => .object "Pointsbook$Depot"
  | 1 => .int
  | 2 => .int
  | 3 => .int
  | _ => .int
abbrev wsX10 : List Cond := u_ws RX1 TX1 5
theorem nmX1 : ∀ a, a < 5 → ∀ b, b < 5 → a ≠ b → (TX1 a).2.1 ≠ (TX1 b).2.1 := by decide +kernel
theorem tyX1_ok : ∀ k, k < 5 → parseFieldDescriptor (TX1 k).2.2.1 = some (tyX1 k) := by decide +kernel
abbrev cX1_init : ByteArray := prog_3_method_1_code
def yX1_init : MethodName := ⟨RX1, "<init>", "(LPointsbook$Depot;II)V"⟩
def RX2 : String := "Pointsbook$Good"
def TX2 : u_T := fun k => match k with
  | 0 => ("Pointsbook$Good", "state", "I", false)
  | 1 => ("Pointsbook$Good", "amount", "I", false)
  | 2 => ("Pointsbook$Good", "energyNow", "I", false)
  | 3 => ("Pointsbook$Good", "sold", "I", false)
  | _ => ("Pointsbook$Good", "onBlackMarket", "I", false)
def tyX2 : Nat → FieldType := fun k => match k with
  | 0 => .int
  | 1 => .int
  | 2 => .int
  | 3 => .int
  | _ => .int
abbrev wsX20 : List Cond := u_ws RX2 TX2 5
theorem nmX2 : ∀ a, a < 5 → ∀ b, b < 5 → a ≠ b → (TX2 a).2.1 ≠ (TX2 b).2.1 := by decide +kernel
theorem tyX2_ok : ∀ k, k < 5 → parseFieldDescriptor (TX2 k).2.2.1 = some (tyX2 k) := by decide +kernel
abbrev cX2_init : ByteArray := prog_4_method_1_code
def yX2_init : MethodName := ⟨RX2, "<init>", "()V"⟩
def RX3 : String := "Pointsbook$Person"
def TX3 : u_T := fun k => match k with
  | 0 => ("Pointsbook$Person", "number", "I", true)
  | 1 => ("Pointsbook$Person", "kind", "I", false)
  | 2 => ("Pointsbook$Person", "registered", "LPointsbook$Shop;", false)
  | 3 => ("Pointsbook$Person", "next", "LPointsbook$Shop;", false)
  | 4 => ("Pointsbook$Person", "health", "I", false)
  | 5 => ("Pointsbook$Person", "name", "I", false)
  | 6 => ("Pointsbook$Person", "bookStolen", "Z", false)
  | 7 => ("Pointsbook$Person", "pointsGot", "I", false)
  | 8 => ("Pointsbook$Person", "pointsGone", "I", false)
  | 9 => ("Pointsbook$Person", "energyEaten", "I", false)
  | _ => ("Pointsbook$Person", "bought", "[I", true)
def tyX3 : Nat → FieldType := fun k => match k with
  | 0 => .int
  | 1 => .int
  | 2 => .object "Pointsbook$Shop"
  | 3 => .object "Pointsbook$Shop"
  | 4 => .int
  | 5 => .int
  | 6 => .boolean
  | 7 => .int
  | 8 => .int
  | 9 => .int
  | _ => .array .int
abbrev wsX30 : List Cond := u_ws RX3 TX3 11
theorem nmX3 : ∀ a, a < 11 → ∀ b, b < 11 → a ≠ b → (TX3 a).2.1 ≠ (TX3 b).2.1 := by decide +kernel
theorem tyX3_ok : ∀ k, k < 11 → parseFieldDescriptor (TX3 k).2.2.1 = some (tyX3 k) := by decide +kernel
abbrev cX3_init : ByteArray := prog_5_method_1_code
def yX3_init : MethodName := ⟨RX3, "<init>", "(IILPointsbook$Shop;)V"⟩
abbrev cX3_isDead : ByteArray := prog_5_method_2_code
def yX3_isDead : MethodName := ⟨RX3, "isDead", "()Z"⟩
abbrev cX3_isWithoutBook : ByteArray := prog_5_method_3_code
def yX3_isWithoutBook : MethodName := ⟨RX3, "isWithoutBook", "()Z"⟩
abbrev cX3_quarters : ByteArray := prog_5_method_4_code
def yX3_quarters : MethodName := ⟨RX3, "quarters", "()I"⟩
abbrev cX3_openNewBook : ByteArray := prog_5_method_5_code
def yX3_openNewBook : MethodName := ⟨RX3, "openNewBook", "()V"⟩
def RX4 : String := "Pointsbook$Sales"
def TX4 : u_T := fun k => match k with
  | 0 => ("Pointsbook$Sales", "months", "[I", true)
  | 1 => ("Pointsbook$Sales", "buyers", "[I", true)
  | 2 => ("Pointsbook$Sales", "goodsSold", "[I", true)
  | 3 => ("Pointsbook$Sales", "grams", "[I", true)
  | _ => ("Pointsbook$Sales", "count", "I", false)
def tyX4 : Nat → FieldType := fun k => match k with
  | 0 => .array .int
  | 1 => .array .int
  | 2 => .array .int
  | 3 => .array .int
  | _ => .int
abbrev wsX40 : List Cond := u_ws RX4 TX4 5
theorem nmX4 : ∀ a, a < 5 → ∀ b, b < 5 → a ≠ b → (TX4 a).2.1 ≠ (TX4 b).2.1 := by decide +kernel
theorem tyX4_ok : ∀ k, k < 5 → parseFieldDescriptor (TX4 k).2.2.1 = some (tyX4 k) := by decide +kernel
abbrev cX4_init : ByteArray := prog_6_method_1_code
def yX4_init : MethodName := ⟨RX4, "<init>", "()V"⟩
abbrev cX4_note : ByteArray := prog_6_method_2_code
def yX4_note : MethodName := ⟨RX4, "note", "(IIII)V"⟩
abbrev cX4_boughtIn : ByteArray := prog_6_method_3_code
def yX4_boughtIn : MethodName := ⟨RX4, "boughtIn", "(III)I"⟩
def RX5 : String := "Pointsbook$Shelf"
def TX5 : u_T := fun k => match k with
  | 0 => ("Pointsbook$Shelf", "grams", "I", false)
  | 1 => ("Pointsbook$Shelf", "coupons", "I", false)
  | 2 => ("Pointsbook$Shelf", "owed", "I", false)
  | 3 => ("Pointsbook$Shelf", "supplied", "I", false)
  | 4 => ("Pointsbook$Shelf", "sold", "I", false)
  | _ => ("Pointsbook$Shelf", "forgedCoupons", "I", false)
def tyX5 : Nat → FieldType := fun k => match k with
  | 0 => .int
  | 1 => .int
  | 2 => .int
  | 3 => .int
  | 4 => .int
  | _ => .int
abbrev wsX50 : List Cond := u_ws RX5 TX5 6
theorem nmX5 : ∀ a, a < 6 → ∀ b, b < 6 → a ≠ b → (TX5 a).2.1 ≠ (TX5 b).2.1 := by decide +kernel
theorem tyX5_ok : ∀ k, k < 6 → parseFieldDescriptor (TX5 k).2.2.1 = some (tyX5 k) := by decide +kernel
abbrev cX5_init : ByteArray := prog_7_method_1_code
def yX5_init : MethodName := ⟨RX5, "<init>", "()V"⟩
def RX6 : String := "Pointsbook$Shop"
def TX6 : u_T := fun k => match k with
  | 0 => ("Pointsbook$Shop", "number", "I", true)
  | 1 => ("Pointsbook$Shop", "source", "LPointsbook$Depot;", true)
  | _ => ("Pointsbook$Shop", "shelves", "[LPointsbook$Shelf;", true)
def tyX6 : Nat → FieldType := fun k => match k with
  | 0 => .int
  | 1 => .object "Pointsbook$Depot"
  | _ => .array (.object "Pointsbook$Shelf")
abbrev wsX60 : List Cond := u_ws RX6 TX6 3
theorem nmX6 : ∀ a, a < 3 → ∀ b, b < 3 → a ≠ b → (TX6 a).2.1 ≠ (TX6 b).2.1 := by decide +kernel
theorem tyX6_ok : ∀ k, k < 3 → parseFieldDescriptor (TX6 k).2.2.1 = some (tyX6 k) := by decide +kernel
abbrev cX6_init : ByteArray := prog_8_method_1_code
def yX6_init : MethodName := ⟨RX6, "<init>", "(ILPointsbook$Depot;)V"⟩
def RX7 : String := "Pointsbook"
def TX7 : u_T := fun k => match k with
  | 0 => ("Pointsbook", "goods", "[LPointsbook$Good;", true)
  | 1 => ("Pointsbook", "people", "[LPointsbook$Person;", true)
  | 2 => ("Pointsbook", "depots", "[LPointsbook$Depot;", true)
  | 3 => ("Pointsbook", "shops", "[LPointsbook$Shop;", true)
  | 4 => ("Pointsbook", "farms", "[LPointsbook$Farm;", true)
  | 5 => ("Pointsbook", "sales", "LPointsbook$Sales;", true)
  | 6 => ("Pointsbook", "leastPoints", "[I", true)
  | 7 => ("Pointsbook", "peopleCount", "I", false)
  | 8 => ("Pointsbook", "depotCount", "I", false)
  | 9 => ("Pointsbook", "shopCount", "I", false)
  | 10 => ("Pointsbook", "farmCount", "I", false)
  | 11 => ("Pointsbook", "pointsTold", "I", false)
  | 12 => ("Pointsbook", "jumpTold", "I", false)
  | 13 => ("Pointsbook", "monthNow", "I", false)
  | 14 => ("Pointsbook", "visits", "I", false)
  | 15 => ("Pointsbook", "gramsCame", "I", false)
  | 16 => ("Pointsbook", "gramsEaten", "I", false)
  | 17 => ("Pointsbook", "gramsLost", "I", false)
  | _ => ("Pointsbook", "centsPaid", "I", false)
def tyX7 : Nat → FieldType := fun k => match k with
  | 0 => .array (.object "Pointsbook$Good")
  | 1 => .array (.object "Pointsbook$Person")
  | 2 => .array (.object "Pointsbook$Depot")
  | 3 => .array (.object "Pointsbook$Shop")
  | 4 => .array (.object "Pointsbook$Farm")
  | 5 => .object "Pointsbook$Sales"
  | 6 => .array .int
  | 7 => .int
  | 8 => .int
  | 9 => .int
  | 10 => .int
  | 11 => .int
  | 12 => .int
  | 13 => .int
  | 14 => .int
  | 15 => .int
  | 16 => .int
  | 17 => .int
  | _ => .int
abbrev wsX70 : List Cond := u_ws RX7 TX7 19
theorem nmX7 : ∀ a, a < 19 → ∀ b, b < 19 → a ≠ b → (TX7 a).2.1 ≠ (TX7 b).2.1 := by decide +kernel
theorem tyX7_ok : ∀ k, k < 19 → parseFieldDescriptor (TX7 k).2.2.1 = some (tyX7 k) := by decide +kernel
abbrev cX7_init : ByteArray := prog_1_method_1_code
def yX7_init : MethodName := ⟨RX7, "<init>", "()V"⟩
abbrev cX7_ration : ByteArray := prog_1_method_2_code
def yX7_ration : MethodName := ⟨RX7, "ration", "(II)I"⟩
abbrev cX7_onPoints : ByteArray := prog_1_method_3_code
def yX7_onPoints : MethodName := ⟨RX7, "onPoints", "(II)I"⟩
abbrev cX7_free : ByteArray := prog_1_method_4_code
def yX7_free : MethodName := ⟨RX7, "free", "(I)I"⟩
abbrev cX7_energy : ByteArray := prog_1_method_5_code
def yX7_energy : MethodName := ⟨RX7, "energy", "(II)I"⟩
abbrev cX7_points : ByteArray := prog_1_method_6_code
def yX7_points : MethodName := ⟨RX7, "points", "(II)I"⟩
abbrev cX7_goodIs : ByteArray := prog_1_method_7_code
def yX7_goodIs : MethodName := ⟨RX7, "goodIs", "(II)I"⟩
abbrev cX7_person : ByteArray := prog_1_method_8_code
def yX7_person : MethodName := ⟨RX7, "person", "(II)I"⟩
abbrev cX7_becomes : ByteArray := prog_1_method_9_code
def yX7_becomes : MethodName := ⟨RX7, "becomes", "(II)I"⟩
abbrev cX7_moves : ByteArray := prog_1_method_10_code
def yX7_moves : MethodName := ⟨RX7, "moves", "(II)I"⟩
abbrev cX7_give : ByteArray := prog_1_method_11_code
def yX7_give : MethodName := ⟨RX7, "give", "(III)I"⟩
abbrev cX7_stealBook : ByteArray := prog_1_method_12_code
def yX7_stealBook : MethodName := ⟨RX7, "stealBook", "(I)I"⟩
abbrev cX7_personIs : ByteArray := prog_1_method_13_code
def yX7_personIs : MethodName := ⟨RX7, "personIs", "(II)I"⟩
abbrev cX7_left : ByteArray := prog_1_method_14_code
def yX7_left : MethodName := ⟨RX7, "left", "(II)I"⟩
abbrev cX7_leftAnew : ByteArray := prog_1_method_15_code
def yX7_leftAnew : MethodName := ⟨RX7, "leftAnew", "(II)I"⟩
abbrev cX7_depot : ByteArray := prog_1_method_16_code
def yX7_depot : MethodName := ⟨RX7, "depot", "(I)I"⟩
abbrev cX7_shop : ByteArray := prog_1_method_17_code
def yX7_shop : MethodName := ⟨RX7, "shop", "(I)I"⟩
abbrev cX7_ship : ByteArray := prog_1_method_18_code
def yX7_ship : MethodName := ⟨RX7, "ship", "(III)I"⟩
abbrev cX7_lose : ByteArray := prog_1_method_19_code
def yX7_lose : MethodName := ⟨RX7, "lose", "(III)I"⟩
abbrev cX7_depotHas : ByteArray := prog_1_method_20_code
def yX7_depotHas : MethodName := ⟨RX7, "depotHas", "(II)I"⟩
abbrev cX7_buy : ByteArray := prog_1_method_21_code
def yX7_buy : MethodName := ⟨RX7, "buy", "(IIII)I"⟩
abbrev cX7_claim : ByteArray := prog_1_method_22_code
def yX7_claim : MethodName := ⟨RX7, "claim", "(III)I"⟩
abbrev cX7_advance : ByteArray := prog_1_method_23_code
def yX7_advance : MethodName := ⟨RX7, "advance", "(III)I"⟩
abbrev cX7_settle : ByteArray := prog_1_method_24_code
def yX7_settle : MethodName := ⟨RX7, "settle", "(II)I"⟩
abbrev cX7_lacks : ByteArray := prog_1_method_25_code
def yX7_lacks : MethodName := ⟨RX7, "lacks", "(IIII)I"⟩
abbrev cX7_shopIs : ByteArray := prog_1_method_26_code
def yX7_shopIs : MethodName := ⟨RX7, "shopIs", "(III)I"⟩
abbrev cX7_forge : ByteArray := prog_1_method_27_code
def yX7_forge : MethodName := ⟨RX7, "forge", "(III)I"⟩
abbrev cX7_steal : ByteArray := prog_1_method_28_code
def yX7_steal : MethodName := ⟨RX7, "steal", "(III)I"⟩
abbrev cX7_inspect : ByteArray := prog_1_method_29_code
def yX7_inspect : MethodName := ⟨RX7, "inspect", "(I)I"⟩
abbrev cX7_black : ByteArray := prog_1_method_30_code
def yX7_black : MethodName := ⟨RX7, "black", "(III)I"⟩
abbrev cX7_farm : ByteArray := prog_1_method_31_code
def yX7_farm : MethodName := ⟨RX7, "farm", "(III)I"⟩
abbrev cX7_deliver : ByteArray := prog_1_method_32_code
def yX7_deliver : MethodName := ⟨RX7, "deliver", "(II)I"⟩
abbrev cX7_failed : ByteArray := prog_1_method_33_code
def yX7_failed : MethodName := ⟨RX7, "failed", "(I)I"⟩
abbrev cX7_month : ByteArray := prog_1_method_34_code
def yX7_month : MethodName := ⟨RX7, "month", "()I"⟩
abbrev cX7_diet : ByteArray := prog_1_method_35_code
def yX7_diet : MethodName := ⟨RX7, "diet", "(I)I"⟩
abbrev cX7_sum : ByteArray := prog_1_method_36_code
def yX7_sum : MethodName := ⟨RX7, "sum", "(I)I"⟩
abbrev cX7_knownGood : ByteArray := prog_1_method_37_code
def yX7_knownGood : MethodName := ⟨RX7, "knownGood", "(I)LPointsbook$Good;"⟩
abbrev cX7_knownPerson : ByteArray := prog_1_method_38_code
def yX7_knownPerson : MethodName := ⟨RX7, "knownPerson", "(I)LPointsbook$Person;"⟩
abbrev cX7_knownDepot : ByteArray := prog_1_method_39_code
def yX7_knownDepot : MethodName := ⟨RX7, "knownDepot", "(I)LPointsbook$Depot;"⟩
abbrev cX7_knownShop : ByteArray := prog_1_method_40_code
def yX7_knownShop : MethodName := ⟨RX7, "knownShop", "(I)LPointsbook$Shop;"⟩
abbrev cX7_knownFarm : ByteArray := prog_1_method_41_code
def yX7_knownFarm : MethodName := ⟨RX7, "knownFarm", "(I)LPointsbook$Farm;"⟩
abbrev cX7_requireRange : ByteArray := prog_1_method_42_code
def yX7_requireRange : MethodName := ⟨RX7, "requireRange", "(III)V"⟩
abbrev cX7_requireRoom : ByteArray := prog_1_method_43_code
def yX7_requireRoom : MethodName := ⟨RX7, "requireRoom", "(II)V"⟩
abbrev cX7_requireAlive : ByteArray := prog_1_method_44_code
def yX7_requireAlive : MethodName := ⟨RX7, "requireAlive", "(LPointsbook$Person;)V"⟩
abbrev cX7_requireBook : ByteArray := prog_1_method_45_code
def yX7_requireBook : MethodName := ⟨RX7, "requireBook", "(LPointsbook$Person;)V"⟩
abbrev cX7_requireEnough : ByteArray := prog_1_method_46_code
def yX7_requireEnough : MethodName := ⟨RX7, "requireEnough", "(II)V"⟩
abbrev cX7_requireAllowed : ByteArray := prog_1_method_47_code
def yX7_requireAllowed : MethodName := ⟨RX7, "requireAllowed", "(LPointsbook$Person;LPointsbook$Shop;II)V"⟩
abbrev cX7_requireSupply : ByteArray := prog_1_method_48_code
def yX7_requireSupply : MethodName := ⟨RX7, "requireSupply", "(LPointsbook$Shop;II)V"⟩
abbrev cX7_changeGood : ByteArray := prog_1_method_49_code
def yX7_changeGood : MethodName := ⟨RX7, "changeGood", "(LPointsbook$Good;II)I"⟩
abbrev cX7_pointsFor : ByteArray := prog_1_method_50_code
def yX7_pointsFor : MethodName := ⟨RX7, "pointsFor", "(LPointsbook$Good;I)I"⟩
abbrev cX7_pointsLeft : ByteArray := prog_1_method_51_code
def yX7_pointsLeft : MethodName := ⟨RX7, "pointsLeft", "(LPointsbook$Person;)I"⟩
abbrev cX7_gramsLeft : ByteArray := prog_1_method_52_code
def yX7_gramsLeft : MethodName := ⟨RX7, "gramsLeft", "(LPointsbook$Person;I)I"⟩
abbrev cX7_gramsLeftAfter : ByteArray := prog_1_method_53_code
def yX7_gramsLeftAfter : MethodName := ⟨RX7, "gramsLeftAfter", "(LPointsbook$Person;LPointsbook$Good;I)I"⟩
abbrev cX7_bringTo : ByteArray := prog_1_method_54_code
def yX7_bringTo : MethodName := ⟨RX7, "bringTo", "(LPointsbook$Depot;II)V"⟩
abbrev cX7_supply : ByteArray := prog_1_method_55_code
def yX7_supply : MethodName := ⟨RX7, "supply", "(LPointsbook$Shop;II)V"⟩
abbrev cX7_handOver : ByteArray := prog_1_method_56_code
def yX7_handOver : MethodName := ⟨RX7, "handOver", "(LPointsbook$Shelf;LPointsbook$Good;I)V"⟩
abbrev cX7_markInBook : ByteArray := prog_1_method_57_code
def yX7_markInBook : MethodName := ⟨RX7, "markInBook", "(LPointsbook$Person;II)I"⟩
abbrev cX7_eat : ByteArray := prog_1_method_58_code
def yX7_eat : MethodName := ⟨RX7, "eat", "(LPointsbook$Person;LPointsbook$Good;I)V"⟩
abbrev cX7_closeFarms : ByteArray := prog_1_method_59_code
def yX7_closeFarms : MethodName := ⟨RX7, "closeFarms", "()V"⟩
abbrev cX7_closePeople : ByteArray := prog_1_method_60_code
def yX7_closePeople : MethodName := ⟨RX7, "closePeople", "()V"⟩
abbrev cX7_closePerson : ByteArray := prog_1_method_61_code
def yX7_closePerson : MethodName := ⟨RX7, "closePerson", "(LPointsbook$Person;)V"⟩
abbrev cX7_nameOfFall : ByteArray := prog_1_method_62_code
def yX7_nameOfFall : MethodName := ⟨RX7, "nameOfFall", "(LPointsbook$Person;)I"⟩
abbrev cX7_repriceGoods : ByteArray := prog_1_method_63_code
def yX7_repriceGoods : MethodName := ⟨RX7, "repriceGoods", "()V"⟩
abbrev cX7_repriceGood : ByteArray := prog_1_method_64_code
def yX7_repriceGood : MethodName := ⟨RX7, "repriceGood", "(LPointsbook$Good;I)V"⟩
abbrev cX7_openNewMonth : ByteArray := prog_1_method_65_code
def yX7_openNewMonth : MethodName := ⟨RX7, "openNewMonth", "()V"⟩
abbrev cX7_leastFor : ByteArray := prog_1_method_66_code
def yX7_leastFor : MethodName := ⟨RX7, "leastFor", "(I)I"⟩
abbrev cX7_liesInShops : ByteArray := prog_1_method_67_code
def yX7_liesInShops : MethodName := ⟨RX7, "liesInShops", "(I)I"⟩
abbrev cX7_gramsInShops : ByteArray := prog_1_method_68_code
def yX7_gramsInShops : MethodName := ⟨RX7, "gramsInShops", "()I"⟩
abbrev cX7_gramsInDepots : ByteArray := prog_1_method_69_code
def yX7_gramsInDepots : MethodName := ⟨RX7, "gramsInDepots", "()I"⟩
abbrev cX7_gramsOnBlackMarket : ByteArray := prog_1_method_70_code
def yX7_gramsOnBlackMarket : MethodName := ⟨RX7, "gramsOnBlackMarket", "()I"⟩
abbrev cX7_peopleAlive : ByteArray := prog_1_method_71_code
def yX7_peopleAlive : MethodName := ⟨RX7, "peopleAlive", "()I"⟩
def RX8 : String := "PointsbookModel"
def TX8 : u_T := fun k => match k with
  | 0 => ("PointsbookModel", "month", "I", false)
  | 1 => ("PointsbookModel", "points", "I", false)
  | 2 => ("PointsbookModel", "jump", "I", false)
  | 3 => ("PointsbookModel", "visits", "I", false)
  | 4 => ("PointsbookModel", "is", "[I", true)
  | 5 => ("PointsbookModel", "ration", "[I", true)
  | 6 => ("PointsbookModel", "price", "[I", true)
  | 7 => ("PointsbookModel", "energy", "[I", true)
  | 8 => ("PointsbookModel", "sold", "[I", true)
  | 9 => ("PointsbookModel", "black", "[I", true)
  | 10 => ("PointsbookModel", "people", "I", false)
  | 11 => ("PointsbookModel", "kind", "[I", true)
  | 12 => ("PointsbookModel", "shopOf", "[I", true)
  | 13 => ("PointsbookModel", "goal", "[I", true)
  | 14 => ("PointsbookModel", "health", "[I", true)
  | 15 => ("PointsbookModel", "name", "[I", true)
  | 16 => ("PointsbookModel", "got", "[I", true)
  | 17 => ("PointsbookModel", "spent", "[I", true)
  | 18 => ("PointsbookModel", "ate", "[I", true)
  | 19 => ("PointsbookModel", "stolen", "[Z", true)
  | 20 => ("PointsbookModel", "bought", "[I", true)
  | 21 => ("PointsbookModel", "logs", "I", false)
  | 22 => ("PointsbookModel", "logWho", "[I", true)
  | 23 => ("PointsbookModel", "logGood", "[I", true)
  | 24 => ("PointsbookModel", "logGrams", "[I", true)
  | 25 => ("PointsbookModel", "depots", "I", false)
  | 26 => ("PointsbookModel", "above", "[I", true)
  | 27 => ("PointsbookModel", "depotHas", "[I", true)
  | 28 => ("PointsbookModel", "shops", "I", false)
  | 29 => ("PointsbookModel", "depotOf", "[I", true)
  | 30 => ("PointsbookModel", "shopHas", "[I", true)
  | 31 => ("PointsbookModel", "coupons", "[I", true)
  | 32 => ("PointsbookModel", "owes", "[I", true)
  | 33 => ("PointsbookModel", "missing", "[I", true)
  | 34 => ("PointsbookModel", "forged", "[I", true)
  | 35 => ("PointsbookModel", "farms", "I", false)
  | 36 => ("PointsbookModel", "farmDepot", "[I", true)
  | 37 => ("PointsbookModel", "farmGood", "[I", true)
  | 38 => ("PointsbookModel", "quota", "[I", true)
  | 39 => ("PointsbookModel", "delivered", "[I", true)
  | 40 => ("PointsbookModel", "failed", "[I", true)
  | 41 => ("PointsbookModel", "came", "I", false)
  | 42 => ("PointsbookModel", "eaten", "I", false)
  | 43 => ("PointsbookModel", "lost", "I", false)
  | 44 => ("PointsbookModel", "paid", "I", false)
  | 45 => ("PointsbookModel", "least", "[I", true)
  | _ => ("PointsbookModel", "thrown", "I", false)
def tyX8 : Nat → FieldType := fun k => match k with
  | 0 => .int
  | 1 => .int
  | 2 => .int
  | 3 => .int
  | 4 => .array .int
  | 5 => .array .int
  | 6 => .array .int
  | 7 => .array .int
  | 8 => .array .int
  | 9 => .array .int
  | 10 => .int
  | 11 => .array .int
  | 12 => .array .int
  | 13 => .array .int
  | 14 => .array .int
  | 15 => .array .int
  | 16 => .array .int
  | 17 => .array .int
  | 18 => .array .int
  | 19 => .array .boolean
  | 20 => .array .int
  | 21 => .int
  | 22 => .array .int
  | 23 => .array .int
  | 24 => .array .int
  | 25 => .int
  | 26 => .array .int
  | 27 => .array .int
  | 28 => .int
  | 29 => .array .int
  | 30 => .array .int
  | 31 => .array .int
  | 32 => .array .int
  | 33 => .array .int
  | 34 => .array .int
  | 35 => .int
  | 36 => .array .int
  | 37 => .array .int
  | 38 => .array .int
  | 39 => .array .int
  | 40 => .array .int
  | 41 => .int
  | 42 => .int
  | 43 => .int
  | 44 => .int
  | 45 => .array .int
  | _ => .int
abbrev wsX80 : List Cond := u_ws RX8 TX8 47
theorem nmX8 : ∀ a, a < 47 → ∀ b, b < 47 → a ≠ b → (TX8 a).2.1 ≠ (TX8 b).2.1 := by decide +kernel
theorem tyX8_ok : ∀ k, k < 47 → parseFieldDescriptor (TX8 k).2.2.1 = some (tyX8 k) := by decide +kernel
abbrev cX8_init : ByteArray := prog_10_method_1_code
def yX8_init : MethodName := ⟨RX8, "<init>", "()V"⟩
abbrev cX8_thrown : ByteArray := prog_10_method_2_code
def yX8_thrown : MethodName := ⟨RX8, "thrown", "()I"⟩
abbrev cX8_fails : ByteArray := prog_10_method_3_code
def yX8_fails : MethodName := ⟨RX8, "fails", "(ZI)Z"⟩
abbrev cX8_in : ByteArray := prog_10_method_4_code
def yX8_in : MethodName := ⟨RX8, "in", "(III)Z"⟩
abbrev cX8_lesser : ByteArray := prog_10_method_5_code
def yX8_lesser : MethodName := ⟨RX8, "lesser", "(II)I"⟩
abbrev cX8_isGood : ByteArray := prog_10_method_6_code
def yX8_isGood : MethodName := ⟨RX8, "isGood", "(I)Z"⟩
abbrev cX8_isOne : ByteArray := prog_10_method_7_code
def yX8_isOne : MethodName := ⟨RX8, "isOne", "(I)Z"⟩
abbrev cX8_isShop : ByteArray := prog_10_method_8_code
def yX8_isShop : MethodName := ⟨RX8, "isShop", "(I)Z"⟩
abbrev cX8_isDepot : ByteArray := prog_10_method_9_code
def yX8_isDepot : MethodName := ⟨RX8, "isDepot", "(I)Z"⟩
abbrev cX8_isDead : ByteArray := prog_10_method_10_code
def yX8_isDead : MethodName := ⟨RX8, "isDead", "(I)Z"⟩
abbrev cX8_quarters : ByteArray := prog_10_method_11_code
def yX8_quarters : MethodName := ⟨RX8, "quarters", "(I)I"⟩
abbrev cX8_ration : ByteArray := prog_10_method_12_code
def yX8_ration : MethodName := ⟨RX8, "ration", "(II)I"⟩
abbrev cX8_onPoints : ByteArray := prog_10_method_13_code
def yX8_onPoints : MethodName := ⟨RX8, "onPoints", "(II)I"⟩
abbrev cX8_free : ByteArray := prog_10_method_14_code
def yX8_free : MethodName := ⟨RX8, "free", "(I)I"⟩
abbrev cX8_energy : ByteArray := prog_10_method_15_code
def yX8_energy : MethodName := ⟨RX8, "energy", "(II)I"⟩
abbrev cX8_points : ByteArray := prog_10_method_16_code
def yX8_points : MethodName := ⟨RX8, "points", "(II)I"⟩
abbrev cX8_lies : ByteArray := prog_10_method_17_code
def yX8_lies : MethodName := ⟨RX8, "lies", "(I)I"⟩
abbrev cX8_goodIs : ByteArray := prog_10_method_18_code
def yX8_goodIs : MethodName := ⟨RX8, "goodIs", "(II)I"⟩
abbrev cX8_person : ByteArray := prog_10_method_19_code
def yX8_person : MethodName := ⟨RX8, "person", "(II)I"⟩
abbrev cX8_becomes : ByteArray := prog_10_method_20_code
def yX8_becomes : MethodName := ⟨RX8, "becomes", "(II)I"⟩
abbrev cX8_moves : ByteArray := prog_10_method_21_code
def yX8_moves : MethodName := ⟨RX8, "moves", "(II)I"⟩
abbrev cX8_hasBook : ByteArray := prog_10_method_22_code
def yX8_hasBook : MethodName := ⟨RX8, "hasBook", "(I)Z"⟩
abbrev cX8_pointsOf : ByteArray := prog_10_method_23_code
def yX8_pointsOf : MethodName := ⟨RX8, "pointsOf", "(I)I"⟩
abbrev cX8_share : ByteArray := prog_10_method_24_code
def yX8_share : MethodName := ⟨RX8, "share", "(II)I"⟩
abbrev cX8_leftOf : ByteArray := prog_10_method_25_code
def yX8_leftOf : MethodName := ⟨RX8, "leftOf", "(II)I"⟩
abbrev cX8_give : ByteArray := prog_10_method_26_code
def yX8_give : MethodName := ⟨RX8, "give", "(III)I"⟩
abbrev cX8_stealBook : ByteArray := prog_10_method_27_code
def yX8_stealBook : MethodName := ⟨RX8, "stealBook", "(I)I"⟩
abbrev cX8_personIs : ByteArray := prog_10_method_28_code
def yX8_personIs : MethodName := ⟨RX8, "personIs", "(II)I"⟩
abbrev cX8_left : ByteArray := prog_10_method_29_code
def yX8_left : MethodName := ⟨RX8, "left", "(II)I"⟩
abbrev cX8_leftAnew : ByteArray := prog_10_method_30_code
def yX8_leftAnew : MethodName := ⟨RX8, "leftAnew", "(II)I"⟩
abbrev cX8_depot : ByteArray := prog_10_method_31_code
def yX8_depot : MethodName := ⟨RX8, "depot", "(I)I"⟩
abbrev cX8_shop : ByteArray := prog_10_method_32_code
def yX8_shop : MethodName := ⟨RX8, "shop", "(I)I"⟩
abbrev cX8_ship : ByteArray := prog_10_method_33_code
def yX8_ship : MethodName := ⟨RX8, "ship", "(III)I"⟩
abbrev cX8_lose : ByteArray := prog_10_method_34_code
def yX8_lose : MethodName := ⟨RX8, "lose", "(III)I"⟩
abbrev cX8_depotHas : ByteArray := prog_10_method_35_code
def yX8_depotHas : MethodName := ⟨RX8, "depotHas", "(II)I"⟩
abbrev cX8_eat : ByteArray := prog_10_method_36_code
def yX8_eat : MethodName := ⟨RX8, "eat", "(III)V"⟩
abbrev cX8_buy : ByteArray := prog_10_method_37_code
def yX8_buy : MethodName := ⟨RX8, "buy", "(IIII)I"⟩
abbrev cX8_lacking : ByteArray := prog_10_method_38_code
def yX8_lacking : MethodName := ⟨RX8, "lacking", "(III)I"⟩
abbrev cX8_supply : ByteArray := prog_10_method_39_code
def yX8_supply : MethodName := ⟨RX8, "supply", "(III)V"⟩
abbrev cX8_claim : ByteArray := prog_10_method_40_code
def yX8_claim : MethodName := ⟨RX8, "claim", "(III)I"⟩
abbrev cX8_advance : ByteArray := prog_10_method_41_code
def yX8_advance : MethodName := ⟨RX8, "advance", "(III)I"⟩
abbrev cX8_settle : ByteArray := prog_10_method_42_code
def yX8_settle : MethodName := ⟨RX8, "settle", "(II)I"⟩
abbrev cX8_lacks : ByteArray := prog_10_method_43_code
def yX8_lacks : MethodName := ⟨RX8, "lacks", "(IIII)I"⟩
abbrev cX8_shopIs : ByteArray := prog_10_method_44_code
def yX8_shopIs : MethodName := ⟨RX8, "shopIs", "(III)I"⟩
abbrev cX8_forge : ByteArray := prog_10_method_45_code
def yX8_forge : MethodName := ⟨RX8, "forge", "(III)I"⟩
abbrev cX8_steal : ByteArray := prog_10_method_46_code
def yX8_steal : MethodName := ⟨RX8, "steal", "(III)I"⟩
abbrev cX8_inspect : ByteArray := prog_10_method_47_code
def yX8_inspect : MethodName := ⟨RX8, "inspect", "(I)I"⟩
abbrev cX8_black : ByteArray := prog_10_method_48_code
def yX8_black : MethodName := ⟨RX8, "black", "(III)I"⟩
abbrev cX8_farm : ByteArray := prog_10_method_49_code
def yX8_farm : MethodName := ⟨RX8, "farm", "(III)I"⟩
abbrev cX8_deliver : ByteArray := prog_10_method_50_code
def yX8_deliver : MethodName := ⟨RX8, "deliver", "(II)I"⟩
abbrev cX8_failed : ByteArray := prog_10_method_51_code
def yX8_failed : MethodName := ⟨RX8, "failed", "(I)I"⟩
abbrev cX8_lacked : ByteArray := prog_10_method_52_code
def yX8_lacked : MethodName := ⟨RX8, "lacked", "(I)Z"⟩
abbrev cX8_age : ByteArray := prog_10_method_53_code
def yX8_age : MethodName := ⟨RX8, "age", "(I)V"⟩
abbrev cX8_reprice : ByteArray := prog_10_method_54_code
def yX8_reprice : MethodName := ⟨RX8, "reprice", "(I)V"⟩
abbrev cX8_month : ByteArray := prog_10_method_55_code
def yX8_month : MethodName := ⟨RX8, "month", "()I"⟩
abbrev cX8_diet : ByteArray := prog_10_method_56_code
def yX8_diet : MethodName := ⟨RX8, "diet", "(I)I"⟩
abbrev cX8_over : ByteArray := prog_10_method_57_code
def yX8_over : MethodName := ⟨RX8, "over", "(Z)I"⟩
abbrev cX8_sum : ByteArray := prog_10_method_58_code
def yX8_sum : MethodName := ⟨RX8, "sum", "(I)I"⟩
def RJ9 : String := "java/lang/Math"
def TJ9 : u_T := fun k => match k with
  | _ => ("", "", "", false)
def tyJ9 : Nat → FieldType := fun k => match k with
  | _ => .int
abbrev wsJ90 : List Cond := u_ws RJ9 TJ9 0
theorem nmJ9 : ∀ a, a < 0 → ∀ b, b < 0 → a ≠ b → (TJ9 a).2.1 ≠ (TJ9 b).2.1 := by decide +kernel
theorem tyJ9_ok : ∀ k, k < 0 → parseFieldDescriptor (TJ9 k).2.2.1 = some (tyJ9 k) := by decide +kernel
abbrev cJ9_max_7cf53 : ByteArray := prog_15_method_65_code
def yJ9_max_7cf53 : MethodName := ⟨RJ9, "max", "(II)I"⟩
abbrev cJ9_min_7cf53 : ByteArray := prog_15_method_69_code
def yJ9_min_7cf53 : MethodName := ⟨RJ9, "min", "(II)I"⟩
def RJ0 : String := "java/lang/String"
def TJ0 : u_T := fun k => match k with
  | _ => ("", "", "", false)
def tyJ0 : Nat → FieldType := fun k => match k with
  | _ => .int
abbrev wsJ00 : List Cond := u_ws RJ0 TJ0 0
theorem nmJ0 : ∀ a, a < 0 → ∀ b, b < 0 → a ≠ b → (TJ0 a).2.1 ≠ (TJ0 b).2.1 := by decide +kernel
theorem tyJ0_ok : ∀ k, k < 0 → parseFieldDescriptor (TJ0 k).2.2.1 = some (tyJ0 k) := by decide +kernel
def RL : String := "PointsbookLaw"
abbrev cL_ration : ByteArray := method_3_code
def yL_ration : MethodName := ⟨RL, "ration", "(LPointsbook;II[J)I"⟩
abbrev cL_onPoints : ByteArray := method_4_code
def yL_onPoints : MethodName := ⟨RL, "onPoints", "(LPointsbook;II[J)I"⟩
abbrev cL_free : ByteArray := method_5_code
def yL_free : MethodName := ⟨RL, "free", "(LPointsbook;I[J)I"⟩
abbrev cL_energy : ByteArray := method_6_code
def yL_energy : MethodName := ⟨RL, "energy", "(LPointsbook;II[J)I"⟩
abbrev cL_points : ByteArray := method_7_code
def yL_points : MethodName := ⟨RL, "points", "(LPointsbook;II[J)I"⟩
abbrev cL_goodIs : ByteArray := method_8_code
def yL_goodIs : MethodName := ⟨RL, "goodIs", "(LPointsbook;II[J)I"⟩
abbrev cL_person : ByteArray := method_9_code
def yL_person : MethodName := ⟨RL, "person", "(LPointsbook;II[J)I"⟩
abbrev cL_becomes : ByteArray := method_10_code
def yL_becomes : MethodName := ⟨RL, "becomes", "(LPointsbook;II[J)I"⟩
abbrev cL_moves : ByteArray := method_11_code
def yL_moves : MethodName := ⟨RL, "moves", "(LPointsbook;II[J)I"⟩
abbrev cL_give : ByteArray := method_12_code
def yL_give : MethodName := ⟨RL, "give", "(LPointsbook;III[J)I"⟩
abbrev cL_stealBook : ByteArray := method_13_code
def yL_stealBook : MethodName := ⟨RL, "stealBook", "(LPointsbook;I[J)I"⟩
abbrev cL_personIs : ByteArray := method_14_code
def yL_personIs : MethodName := ⟨RL, "personIs", "(LPointsbook;II[J)I"⟩
abbrev cL_left : ByteArray := method_15_code
def yL_left : MethodName := ⟨RL, "left", "(LPointsbook;II[J)I"⟩
abbrev cL_leftAnew : ByteArray := method_16_code
def yL_leftAnew : MethodName := ⟨RL, "leftAnew", "(LPointsbook;II[J)I"⟩
abbrev cL_depot : ByteArray := method_17_code
def yL_depot : MethodName := ⟨RL, "depot", "(LPointsbook;I[J)I"⟩
abbrev cL_shop : ByteArray := method_18_code
def yL_shop : MethodName := ⟨RL, "shop", "(LPointsbook;I[J)I"⟩
abbrev cL_ship : ByteArray := method_19_code
def yL_ship : MethodName := ⟨RL, "ship", "(LPointsbook;III[J)I"⟩
abbrev cL_lose : ByteArray := method_20_code
def yL_lose : MethodName := ⟨RL, "lose", "(LPointsbook;III[J)I"⟩
abbrev cL_depotHas : ByteArray := method_21_code
def yL_depotHas : MethodName := ⟨RL, "depotHas", "(LPointsbook;II[J)I"⟩
abbrev cL_buy : ByteArray := method_22_code
def yL_buy : MethodName := ⟨RL, "buy", "(LPointsbook;IIII[J)I"⟩
abbrev cL_claim : ByteArray := method_23_code
def yL_claim : MethodName := ⟨RL, "claim", "(LPointsbook;III[J)I"⟩
abbrev cL_advance : ByteArray := method_24_code
def yL_advance : MethodName := ⟨RL, "advance", "(LPointsbook;III[J)I"⟩
abbrev cL_settle : ByteArray := method_25_code
def yL_settle : MethodName := ⟨RL, "settle", "(LPointsbook;II[J)I"⟩
abbrev cL_lacks : ByteArray := method_26_code
def yL_lacks : MethodName := ⟨RL, "lacks", "(LPointsbook;IIII[J)I"⟩
abbrev cL_shopIs : ByteArray := method_27_code
def yL_shopIs : MethodName := ⟨RL, "shopIs", "(LPointsbook;III[J)I"⟩
abbrev cL_forge : ByteArray := method_28_code
def yL_forge : MethodName := ⟨RL, "forge", "(LPointsbook;III[J)I"⟩
abbrev cL_steal : ByteArray := method_29_code
def yL_steal : MethodName := ⟨RL, "steal", "(LPointsbook;III[J)I"⟩
abbrev cL_inspect : ByteArray := method_30_code
def yL_inspect : MethodName := ⟨RL, "inspect", "(LPointsbook;I[J)I"⟩
abbrev cL_black : ByteArray := method_31_code
def yL_black : MethodName := ⟨RL, "black", "(LPointsbook;III[J)I"⟩
abbrev cL_farm : ByteArray := method_32_code
def yL_farm : MethodName := ⟨RL, "farm", "(LPointsbook;III[J)I"⟩
abbrev cL_deliver : ByteArray := method_33_code
def yL_deliver : MethodName := ⟨RL, "deliver", "(LPointsbook;II[J)I"⟩
abbrev cL_failed : ByteArray := method_34_code
def yL_failed : MethodName := ⟨RL, "failed", "(LPointsbook;I[J)I"⟩
abbrev cL_month : ByteArray := method_35_code
def yL_month : MethodName := ⟨RL, "month", "(LPointsbook;[J)I"⟩
abbrev cL_diet : ByteArray := method_36_code
def yL_diet : MethodName := ⟨RL, "diet", "(LPointsbook;I[J)I"⟩
abbrev cL_sum : ByteArray := method_37_code
def yL_sum : MethodName := ⟨RL, "sum", "(LPointsbook;I[J)I"⟩
abbrev cL_law : ByteArray := code
def yL_law : MethodName := ⟨RL, "law", "([I)Z"⟩
abbrev vwCl : List vw_C := [(RX0, TX0, 3), (RX1, TX1, 5), (RX2, TX2, 5), (RX3, TX3, 11), (RX4, TX4, 5), (RX5, TX5, 6), (RX6, TX6, 3), (RX7, TX7, 19), (RX8, TX8, 47)]
end
section
/-! THE WP CALCULUS: values, states, the world. Objects by ids (kind, place); S k i f is an int field, or a place of an int row. -/
abbrev ZV : Type := Int32 ⊕ (Int64 ⊕ Option (Nat × Nat))
abbrev ZS : Type := Nat → Nat → Nat → Int32
abbrev ZO : Type := Option ZV ⊕ Nat
abbrev ZK : Type := ZO → ZS → Prop
abbrev ZSp : Type := List ZV → ZS → ZK → Prop
abbrev ZP : Type := List (Option ZV) → List ZV → ZS → ZK → Prop
abbrev ZA : Type := Nat → Nat → Nat
abbrev zi (x : Int32) : ZV := Sum.inl x
abbrev zl (x : Int64) : ZV := Sum.inr (Sum.inl x)
abbrev zr (k i : Nat) : ZV := Sum.inr (Sum.inr (some (k, i)))
abbrev zn : ZV := Sum.inr (Sum.inr none)
def zc (ad : ZA) : ZV → Value := fun v => match v with
  | .inl x => .int x
  | .inr (.inl x) => .long x
  | .inr (.inr none) => .null
  | .inr (.inr (some q)) => .ref (ad q.1 q.2)
def znth : List (Option ZV) → Nat → Option ZV
  | [], _ => none
  | a :: _, 0 => a
  | _ :: l, n + 1 => znth l n
def zset : List (Option ZV) → Nat → ZV → List (Option ZV)
  | [], _, _ => []
  | _ :: l, 0, v => some v :: l
  | a :: l, n + 1, v => a :: zset l n v
def ztake : Nat → List ZV → List ZV → Option (List ZV × List ZV)
  | 0, st, acc => some (acc, st)
  | n + 1, v :: st, acc => ztake n st (v :: acc)
  | _ + 1, [], _ => none
def nD (S : ZS) : Nat := (S 7 0 8).toNatClampNeg
def nP (S : ZS) : Nat := (S 7 0 7).toNatClampNeg
def nS (S : ZS) : Nat := (S 7 0 9).toNatClampNeg
def nF (S : ZS) : Nat := (S 7 0 10).toNatClampNeg
/-- the model's int rows, by its field numbers -/
def zma (i : Nat) : Bool := (Nat.ble 4 i && Nat.ble i 9) || (Nat.ble 11 i && Nat.ble i 18) || Nat.beq i 20 || (Nat.ble 22 i && Nat.ble i 24) || Nat.beq i 26 || Nat.beq i 27 || (Nat.ble 29 i && Nat.ble i 34) || (Nat.ble 36 i && Nat.ble i 40) || Nat.beq i 45
def zlv (S : ZS) (k i : Nat) : Prop := match k with
  | 0 => i < nD S
  | 1 => i < nF S
  | 2 => i < 6
  | 3 => i < nP S
  | 5 => i < 6 * nS S
  | 6 => i < nS S
  | 9 => i < nD S
  | 10 => i < nP S
  | 21 => i < nS S
  | 22 => zma i = true
  | 23 => i = 19
  | 24 => i = 0
  | 26 => i = 0
  | k => k < 21 ∧ i = 0
def zml (i : Nat) : Nat := bif Nat.ble i 9 then 6 else bif Nat.ble i 18 then 20 else bif Nat.ble i 20 then 120 else bif Nat.ble i 24 then 5000 else bif Nat.ble i 26 then 6 else bif Nat.ble i 27 then 36 else bif Nat.ble i 29 then 6 else bif Nat.ble i 34 then 36 else bif Nat.ble i 40 then 6 else 3001
def zlen (k i : Nat) : Nat := match k with
  | 9 => 6
  | 10 => 6
  | 15 => 3001
  | 16 => 6
  | 17 => 20
  | 18 => 6
  | 19 => 6
  | 20 => 6
  | 21 => 6
  | 22 => zml i
  | 23 => 20
  | 24 => 1
  | _ => 512
/-- what a field is: (0, _) an int; (1, k) the thing (k, i) of its own; (2, k) the thing (k, 0); (3, k) the thing (k, S k i f); (4, k) the same, or null; (5, k) the thing (k, f) -/
def zshape (k f : Nat) : Nat × Nat := match k with
  | 0 => match f with
    | 1 => (4, 0)
    | 2 => (1, 9)
    | _ => (0, 0)
  | 1 => match f with
    | 0 => (3, 0)
    | _ => (0, 0)
  | 3 => match f with
    | 2 => (3, 6)
    | 3 => (3, 6)
    | 10 => (1, 10)
    | _ => (0, 0)
  | 4 => match f with
    | 0 => (2, 11)
    | 1 => (2, 12)
    | 2 => (2, 13)
    | 3 => (2, 14)
    | _ => (0, 0)
  | 6 => match f with
    | 1 => (3, 0)
    | 2 => (1, 21)
    | _ => (0, 0)
  | 7 => match f with
    | 0 => (2, 16)
    | 1 => (2, 17)
    | 2 => (2, 18)
    | 3 => (2, 19)
    | 4 => (2, 20)
    | 5 => (2, 4)
    | 6 => (2, 15)
    | _ => (0, 0)
  | 8 => bif zma f then (5, 22) else bif Nat.beq f 19 then (5, 23) else (0, 0)
  | _ => (0, 0)
def zfldS (sh : Nat × Nat) (x : Int32) (i f : Nat) : ZV := match sh.1 with
  | 1 => zr sh.2 i
  | 2 => zr sh.2 0
  | 3 => zr sh.2 x.toNatClampNeg
  | 4 => Sum.inr (Sum.inr (if x < 0 then none else some (sh.2, x.toNatClampNeg)))
  | 5 => zr sh.2 f
  | _ => Sum.inl x
def zfld (S : ZS) (k i f : Nat) : ZV := zfldS (zshape k f) (S k i f) i f
def znf (k : Nat) : Nat := match k with
  | 0 => 3
  | 1 => 5
  | 2 => 5
  | 3 => 11
  | 4 => 5
  | 5 => 6
  | 6 => 3
  | 7 => 19
  | _ => 47
/-- a row's cell: of the thing itself, and the counts -/
def zconN (cA : Nat → ClassId) (ad : ZA) (F : Nat → Int32) (a b d h : Nat) (k i : Nat) : va_E := match k with
  | 16 => .inl (cA 4, (6, .inr (.inr (.inr (.inr (fun j => some (ad 2 j)))))))
  | 17 => .inl (cA 5, (20, .inr (.inr (.inr (.inr (fun j => if j < b then some (ad 3 j) else none))))))
  | 18 => .inl (cA 2, (6, .inr (.inr (.inr (.inr (fun j => if j < a then some (ad 0 j) else none))))))
  | 19 => .inl (cA 7, (6, .inr (.inr (.inr (.inr (fun j => if j < d then some (ad 6 j) else none))))))
  | 20 => .inl (cA 3, (6, .inr (.inr (.inr (.inr (fun j => if j < h then some (ad 1 j) else none))))))
  | 21 => .inl (cA 6, (6, .inr (.inr (.inr (.inr (fun j => some (ad 5 (6 * i + j))))))))
  | 23 => .inl (cA 1, (20, .inl F))
  | 24 => .inl (cA 8, (1, .inr (.inl (fun j => (F j).toInt64))))
  | k => .inl (cA 0, (zlen k i, .inl F))
def zobj (ad : ZA) (F : Nat → Int32) (k i : Nat) : List Value := (List.range (znf k)).map (fun f => zc ad (zfldS (zshape k f) (F f) i f))
def zcon (cA : Nat → ClassId) (ad : ZA) (S : ZS) (k i : Nat) : va_E := if k < 9 then .inr (k, zobj ad (S k i) k i) else zconN cA ad (S k i) (nD S) (nP S) (nS S) (nF S) k i
def zup (S : ZS) (k i f : Nat) (v : Int32) : ZS := fun k' i' f' => if k' = k ∧ i' = i ∧ f' = f then v else S k' i' f'
def zWF (S : ZS) : Prop :=
  (∀ i, i < nD S → S 0 i 1 < 0 ∨ (S 0 i 1).toNatClampNeg < i) ∧ (∀ i, i < nF S → (S 1 i 0).toNatClampNeg < nD S) ∧
  (∀ i, i < nP S → (S 3 i 2).toNatClampNeg < nS S ∧ (S 3 i 3).toNatClampNeg < nS S) ∧ (∀ i, i < nS S → (S 6 i 1).toNatClampNeg < nD S)
/-- D, the rows' classes, the base: what is older stays -/
abbrev ZG : Type := va_G × (Nat → ClassId) × Nat
def zAA (g : ZG) : Nat → Prop := fun q => g.2.2 ≤ q
def zW (g : ZG) (ad : ZA) (S : ZS) (H : Heap) : Prop :=
  (∀ k i, k < 25 → zlv S k i → va_at g.1 vwCl (ad k i, zcon g.2.1 ad S k i) H) ∧ (∀ k i k' i', k < 25 → k' < 25 → zlv S k i → zlv S k' i' → ad k i = ad k' i' → k = k' ∧ i = i') ∧
  (∀ k i, k < 25 → zlv S k i → zAA g (ad k i)) ∧ zWF S
def zlvv (S : ZS) (v : ZV) : Prop := match v with
  | .inr (.inr (some q)) => zlv S q.1 q.2
  | _ => True
def zlvs (S : ZS) : List ZV → Prop
  | [] => True
  | v :: st => zlvv S v ∧ zlvs S st
def zc1 (v : ZV) : Prop := match v with
  | .inr (.inl _) => False
  | _ => True
def zMono (S S' : ZS) : Prop := nD S ≤ nD S' ∧ nP S ≤ nP S' ∧ nS S ≤ nS S' ∧ nF S ≤ nF S'
def zExt (S : ZS) (ad ad' : ZA) : Prop := ∀ k i, zlv S k i → ad' k i = ad k i
def zLR (ad : ZA) (S : ZS) (ls : Array Slot) (nL : Nat) (L : List (Option ZV)) : Prop :=
  ls.size = nL ∧ lv_wf ls ∧ L.length = nL ∧ ∀ i v, znth L i = some v → ls[i]? = some (.val (zc ad v)) ∧ zlvv S v ∧ zc1 v
def zty (cA : Nat → ClassId) : List (ClassId × FieldType) := [(cA 0, .int), (cA 1, .boolean), (cA 2, .object "Pointsbook$Depot"), (cA 3, .object "Pointsbook$Farm"), (cA 4, .object "Pointsbook$Good"), (cA 5, .object "Pointsbook$Person"), (cA 6, .object "Pointsbook$Shelf"), (cA 7, .object "Pointsbook$Shop"), (cA 8, .long)]
theorem zW.at {g : ZG} {ad : ZA} {S : ZS} {H : Heap} (h : zW g ad S H) {k i : Nat} (hk : k < 25) (hl : zlv S k i) : va_at g.1 vwCl (ad k i, zcon g.2.1 ad S k i) H := h.1 k i hk hl
theorem zMono.rf {S : ZS} : zMono S S := ⟨Nat.le_refl _, Nat.le_refl _, Nat.le_refl _, Nat.le_refl _⟩
theorem zMono.tr {S S' S'' : ZS} (h : zMono S S') (h' : zMono S' S'') : zMono S S'' := ⟨Nat.le_trans h.1 h'.1, Nat.le_trans h.2.1 h'.2.1, Nat.le_trans h.2.2.1 h'.2.2.1, Nat.le_trans h.2.2.2 h'.2.2.2⟩
theorem zlv.mono {S S' : ZS} (h : zMono S S') {k i : Nat} (hl : zlv S k i) : zlv S' k i := by
  obtain ⟨h1, h2, h3, h4⟩ := h
  unfold zlv at hl ⊢
  split <;> simp_all <;> omega
theorem zlvv.mono {S S' : ZS} (h : zMono S S') {v : ZV} (hl : zlvv S v) : zlvv S' v := by
  rcases v with v | v | _ | q
  · trivial
  · trivial
  · trivial
  · exact zlv.mono h hl
theorem zlvs.mono {S S' : ZS} (h : zMono S S') : ∀ {st : List ZV}, zlvs S st → zlvs S' st
  | [], _ => trivial
  | _ :: _, hl => ⟨hl.1.mono h, zlvs.mono h hl.2⟩
theorem zExt.rf {S : ZS} {ad : ZA} : zExt S ad ad := fun _ _ _ => rfl
theorem zExt.tr {S S' : ZS} {ad ad' ad'' : ZA} (hm : zMono S S') (h : zExt S ad ad') (h' : zExt S' ad' ad'') : zExt S ad ad'' := fun k i hl => (h' k i (hl.mono hm)).trans (h k i hl)
theorem zc_ext {S : ZS} {ad ad' : ZA} (h : zExt S ad ad') {v : ZV} (hl : zlvv S v) : zc ad' v = zc ad v := by
  rcases v with v | v | _ | q
  · rfl
  · rfl
  · rfl
  · show Value.ref _ = Value.ref _
    rw [h q.1 q.2 hl]
theorem zcs_ext {S : ZS} {ad ad' : ZA} (h : zExt S ad ad') : ∀ {st : List ZV}, zlvs S st → st.map (zc ad') = st.map (zc ad)
  | [], _ => rfl
  | v :: st, hl => by
    rw [List.map_cons, List.map_cons, zc_ext h hl.1, zcs_ext h hl.2]
theorem zLR.ext {S S' : ZS} {ad ad' : ZA} {ls : Array Slot} {nL : Nat} {L : List (Option ZV)} (hm : zMono S S') (h : zExt S ad ad') (hL : zLR ad S ls nL L) : zLR ad' S' ls nL L :=
  ⟨hL.1, hL.2.1, hL.2.2.1, fun i v hv => by
    obtain ⟨h1, h2, h3⟩ := hL.2.2.2 i v hv
    exact ⟨by rw [zc_ext h h2]; exact h1, h2.mono hm, h3⟩⟩
theorem znth_lt : ∀ {L : List (Option ZV)} {i : Nat} {v : ZV}, znth L i = some v → i < L.length
  | [], _, _, h => by cases h
  | _ :: _, 0, _, _ => Nat.succ_pos _
  | _ :: l, n + 1, v, h => Nat.succ_lt_succ (znth_lt (L := l) (i := n) (v := v) h)
theorem zset_len : ∀ (L : List (Option ZV)) (i : Nat) (v : ZV), (zset L i v).length = L.length
  | [], _, _ => rfl
  | _ :: _, 0, _ => rfl
  | _ :: l, n + 1, v => congrArg Nat.succ (zset_len l n v)
theorem znth_set_ne : ∀ (L : List (Option ZV)) (i j : Nat) (v : ZV), j ≠ i → znth (zset L i v) j = znth L j
  | [], _, _, _, _ => rfl
  | _ :: _, 0, 0, _, h => absurd rfl h
  | _ :: _, 0, _ + 1, _, _ => rfl
  | _ :: _, _ + 1, 0, _, _ => rfl
  | _ :: l, n + 1, k + 1, v, h => znth_set_ne l n k v (fun e => h (by rw [e]))
theorem znth_set_self : ∀ (L : List (Option ZV)) (i : Nat) (v w : ZV), znth (zset L i v) i = some w → w = v
  | [], _, _, _, h => by cases h
  | _ :: _, 0, _, _, h => (Option.some.inj h).symm
  | _ :: l, n + 1, v, w, h => znth_set_self l n v w h
theorem zcat {ad : ZA} {v : ZV} (h : zc1 v) : (zc ad v).category = 1 := by
  rcases v with v | v | _ | q
  · rfl
  · exact False.elim h
  · rfl
  · rfl
/-- the locals as the kit's rows have them -/
def zlst (ad : ZA) (L : List (Option ZV)) : List (Nat × Value) := (List.range L.length).filterMap (fun i => (znth L i).map (fun v => (i, zc ad v)))
theorem zLR.has {ad : ZA} {S : ZS} {ls : Array Slot} {nL : Nat} {L : List (Option ZV)} (h : zLR ad S ls nL L) : lv_has ls nL (zlst ad L) := by
  refine ⟨h.1, h.2.1, fun q hq => ?_⟩
  obtain ⟨i, -, hi⟩ := List.mem_filterMap.mp hq
  cases hv : znth L i with
  | none => rw [hv] at hi; cases hi
  | some v =>
    rw [hv] at hi
    cases hi
    exact (h.2.2.2 i v hv).1
theorem zLR.st {ad : ZA} {S : ZS} {ls ls' : Array Slot} {nL : Nat} {L : List (Option ZV)} (h : zLR ad S ls nL L) {i : Nat} {v : ZV} (hv : zlvv S v) (h1 : zc1 v)
    (h' : lv_has ls' nL ((i, zc ad v) :: (zlst ad L).filter (fun q => !(q.1 == i) && !(q.1 + 1 == i && q.2.category == 2)))) : zLR ad S ls' nL (zset L i v) := by
  refine ⟨h'.1, h'.2.1, (zset_len _ _ _).trans h.2.2.1, fun j w hw => ?_⟩
  by_cases hj : j = i
  · subst hj
    have hwv : w = v := znth_set_self L j v w hw
    subst hwv
    exact ⟨h'.2.2 _ List.mem_cons_self, hv, h1⟩
  · rw [znth_set_ne L i j v hj] at hw
    obtain ⟨g1, g2, g3⟩ := h.2.2.2 j w hw
    refine ⟨h'.2.2 (j, zc ad w) (List.mem_cons_of_mem _ (List.mem_filter.mpr ⟨List.mem_filterMap.mpr ⟨j, List.mem_range.mpr (znth_lt hw), by rw [hw]; rfl⟩, ?_⟩)), g2, g3⟩
    have hc : ((zc ad w).category == 2) = false := by rw [zcat g3]; rfl
    simp [hj, hc]
theorem zfldS_up {S : ZS} {k i f : Nat} {v : Int32} {k' i' f' : Nat} (h : ¬ (k' = k ∧ i' = i ∧ f' = f)) : zup S k i f v k' i' f' = S k' i' f' := if_neg h
theorem zup_self {S : ZS} {k i f : Nat} {v : Int32} : zup S k i f v k i f = v := if_pos ⟨rfl, rfl, rfl⟩
theorem zcon_congr {cA : Nat → ClassId} {ad : ZA} {S S' : ZS} {k i : Nat} (h : S' k i = S k i) (h1 : nD S' = nD S) (h2 : nP S' = nP S) (h3 : nS S' = nS S) (h4 : nF S' = nF S) : zcon cA ad S' k i = zcon cA ad S k i := by
  unfold zcon
  rw [h, h1, h2, h3, h4]
theorem zlv_congr {S S' : ZS} {k i : Nat} (h1 : nD S' = nD S) (h2 : nP S' = nP S) (h3 : nS S' = nS S) (h4 : nF S' = nF S) : zlv S' k i = zlv S k i := by
  unfold zlv
  rw [h1, h2, h3, h4]
theorem zobj_set (ad : ZA) (F : Nat → Int32) (k i f : Nat) (v : Int32) (hf : f < znf k) (x : ZV) (hx : zfldS (zshape k f) v i f = x) : zobj ad (fun j => if j = f then v else F j) k i = (zobj ad F k i).set f (zc ad x) := by
  apply List.ext_getElem?
  intro j
  by_cases hj : j = f
  · subst hj
    rw [List.getElem?_set_self (by simp [zobj, hf])]
    simp [zobj, hf, hx]
  · rw [List.getElem?_set_ne (fun e => hj e.symm)]
    unfold zobj
    rw [List.getElem?_map, List.getElem?_map]
    by_cases hl : j < znf k
    · simp [hl, hj]
    · simp [hl]
theorem zobj_get (ad : ZA) (F : Nat → Int32) (k i f : Nat) (hf : f < znf k) : (zobj ad F k i)[f]? = some (zc ad (zfldS (zshape k f) (F f) i f)) := by simp [zobj, hf]
theorem zup_fun (S : ZS) (k i f : Nat) (v : Int32) : zup S k i f v k i = fun j => if j = f then v else S k i j := by
  funext j
  by_cases hj : j = f
  · rw [if_pos hj, hj]; exact zup_self
  · rw [if_neg hj]; exact zfldS_up (fun h => hj h.2.2)
theorem zup_other (S : ZS) (k i f : Nat) (v : Int32) {k' i' : Nat} (h : ¬ (k' = k ∧ i' = i)) : zup S k i f v k' i' = S k' i' := by
  funext j
  exact zfldS_up (fun q => h ⟨q.1, q.2.1⟩)
/-- the places that counts and chains of things stand in -/
def zfix (k f : Nat) : Bool := (Nat.beq k 7 && (Nat.ble 7 f && Nat.ble f 10)) || (Nat.beq k 0 && Nat.beq f 1) || (Nat.beq k 1 && Nat.beq f 0) || (Nat.beq k 3 && (Nat.beq f 2 || Nat.beq f 3)) || (Nat.beq k 6 && Nat.beq f 1)
theorem zup_cnt {S : ZS} {k i f : Nat} {v : Int32} (h : k ≠ 7 ∨ f < 7 ∨ 10 < f) : nD (zup S k i f v) = nD S ∧ nP (zup S k i f v) = nP S ∧ nS (zup S k i f v) = nS S ∧ nF (zup S k i f v) = nF S := by
  have key : ∀ j, 7 ≤ j → j ≤ 10 → zup S k i f v 7 0 j = S 7 0 j := fun j h1 h2 => zfldS_up (fun q => by omega)
  unfold nD nP nS nF
  rw [key 8 (by decide) (by decide), key 7 (by decide) (by decide), key 9 (by decide) (by decide), key 10 (by decide) (by decide)]
  exact ⟨rfl, rfl, rfl, rfl⟩
/-- one cell is written, its new content is that of the new state -/
theorem zW.put {g : ZG} {ad : ZA} {S : ZS} {H H1 : Heap} (h : zW g ad S H) {k i f : Nat} {v : Int32} (hk25 : k < 25) (hl : zlv S k i) (hn : k ≠ 7 ∨ f < 7 ∨ 10 < f) (hwf : zWF (zup S k i f v))
    (hat : va_at g.1 vwCl (ad k i, zcon g.2.1 ad (zup S k i f v) k i) H1) (ho : ∀ q, q ≠ ad k i → H1[q]? = H[q]?) : zW g ad (zup S k i f v) H1 := by
  obtain ⟨c1, c2, c3, c4⟩ := zup_cnt (S := S) (i := i) (v := v) hn
  have lv : ∀ k' i', zlv (zup S k i f v) k' i' = zlv S k' i' := fun k' i' => zlv_congr c1 c2 c3 c4
  obtain ⟨w1, w2, w3, w4⟩ := h
  refine ⟨fun k' i' hk' h' => ?_, fun a b a' b' g1 g2 h1 h2 => w2 a b a' b' g1 g2 (by rw [← lv]; exact h1) (by rw [← lv]; exact h2), fun a b g1 h1 => w3 a b g1 (by rw [← lv]; exact h1), hwf⟩
  rw [lv] at h'
  by_cases hq : k' = k ∧ i' = i
  · obtain ⟨rfl, rfl⟩ := hq
    exact hat
  · rw [zcon_congr (zup_other S k i f v hq) c1 c2 c3 c4]
    exact (w1 k' i' hk' h').kept (ho _ (fun e => hq (w2 k' i' k i hk' hk25 h' hl e)))
theorem zWF.put {S : ZS} {k i f : Nat} {v : Int32} (h : zWF S) (hz : zfix k f = false) : zWF (zup S k i f v) := by
  have hn : k ≠ 7 ∨ f < 7 ∨ 10 < f := by
    by_cases h1 : k = 7
    · subst h1
      by_cases h2 : f < 7
      · exact Or.inr (Or.inl h2)
      · by_cases h3 : 10 < f
        · exact Or.inr (Or.inr h3)
        · have : (Nat.ble 7 f && Nat.ble f 10) = true := by simp [Nat.ble_eq]; omega
          simp [zfix, this] at hz
    · exact Or.inl h1
  obtain ⟨c1, c2, c3, c4⟩ := zup_cnt (S := S) (i := i) (v := v) hn
  obtain ⟨w1, w2, w3, w4⟩ := h
  have key : ∀ a b j, zfix a j = true → zup S k i f v a b j = S a b j := fun a b j hj => zfldS_up (fun q => by obtain ⟨rfl, -, rfl⟩ := q; rw [hz] at hj; cases hj)
  refine ⟨fun a ha => ?_, fun a ha => ?_, fun a ha => ?_, fun a ha => ?_⟩
  · rw [c1] at ha; rw [key 0 a 1 rfl]; exact w1 a ha
  · rw [c4] at ha; rw [key 1 a 0 rfl, c1]; exact w2 a ha
  · rw [c2] at ha; rw [key 3 a 2 rfl, key 3 a 3 rfl, c3]; exact w3 a ha
  · rw [c3] at ha; rw [key 6 a 1 rfl, c1]; exact w4 a ha
theorem zfix_n {k f : Nat} (hz : zfix k f = false) : k ≠ 7 ∨ f < 7 ∨ 10 < f := by
  by_cases h1 : k = 7
  · subst h1
    by_cases h2 : f < 7
    · exact Or.inr (Or.inl h2)
    · by_cases h3 : 10 < f
      · exact Or.inr (Or.inr h3)
      · have : (Nat.ble 7 f && Nat.ble f 10) = true := by simp [Nat.ble_eq]; omega
        simp [zfix, this] at hz
  · exact Or.inl h1
/-- a field that is a thing: it lives -/
theorem zfld_live {S : ZS} {k i f : Nat} (hw : zWF S) (hl : zlv S k i) (hk : k < 9) : zlvv S (zfldS (zshape k f) (S k i f) i f) := by
  obtain ⟨w1, w2, w3, w4⟩ := hw
  rcases (show k = 0 ∨ k = 1 ∨ k = 2 ∨ k = 3 ∨ k = 4 ∨ k = 5 ∨ k = 6 ∨ k = 7 ∨ k = 8 by omega) with rfl | rfl | rfl | rfl | rfl | rfl | rfl | rfl | rfl
  · match f with
    | 0 => trivial
    | 1 =>
      show zlvv S (Sum.inr (Sum.inr (if S 0 i 1 < 0 then none else some (0, (S 0 i 1).toNatClampNeg))))
      by_cases hc : S 0 i 1 < 0
      · rw [if_pos hc]; trivial
      · rw [if_neg hc]
        exact Nat.lt_trans ((w1 i hl).resolve_left hc) hl
    | 2 => exact hl
    | f + 3 => trivial
  · match f with
    | 0 => exact w2 i hl
    | f + 1 => trivial
  · trivial
  · match f with
    | 0 => trivial
    | 1 => trivial
    | 2 => exact (w3 i hl).1
    | 3 => exact (w3 i hl).2
    | 4 => trivial
    | 5 => trivial
    | 6 => trivial
    | 7 => trivial
    | 8 => trivial
    | 9 => trivial
    | 10 => exact hl
    | f + 11 => trivial
  · match f with
    | 0 => exact ⟨by decide, rfl⟩
    | 1 => exact ⟨by decide, rfl⟩
    | 2 => exact ⟨by decide, rfl⟩
    | 3 => exact ⟨by decide, rfl⟩
    | f + 4 => trivial
  · trivial
  · match f with
    | 0 => trivial
    | 1 => exact w4 i hl
    | 2 => exact hl
    | f + 3 => trivial
  · match f with
    | 0 => exact ⟨by decide, rfl⟩
    | 1 => exact ⟨by decide, rfl⟩
    | 2 => exact ⟨by decide, rfl⟩
    | 3 => exact ⟨by decide, rfl⟩
    | 4 => exact ⟨by decide, rfl⟩
    | 5 => exact ⟨by decide, rfl⟩
    | 6 => exact ⟨by decide, rfl⟩
    | f + 7 => trivial
  · show zlvv S (zfldS (bif zma f then (5, 22) else bif Nat.beq f 19 then (5, 23) else (0, 0)) (S 8 i f) i f)
    cases hm : zma f with
    | true => exact hm
    | false =>
      cases h19 : Nat.beq f 19 with
      | true => exact Nat.eq_of_beq_eq_true h19
      | false => trivial
end
section
/-! the context of a walk, as one value; the judgement ZOK; one row an instruction -/
abbrev ZX : Type := Program × Launch × Env × Room × State × MethodId × Array Value × List Frame × Method × Code × ZG × ZS × ZA × ZK × Nat × Nat × Nat × (State → Prop)
abbrev ZX.p (X : ZX) := X.1
abbrev ZX.l (X : ZX) := X.2.1
abbrev ZX.e (X : ZX) := X.2.2.1
abbrev ZX.R (X : ZX) := X.2.2.2.1
abbrev ZX.s (X : ZX) := X.2.2.2.2.1
abbrev ZX.m (X : ZX) := X.2.2.2.2.2.1
abbrev ZX.a (X : ZX) := X.2.2.2.2.2.2.1
abbrev ZX.b (X : ZX) := X.2.2.2.2.2.2.2.1
abbrev ZX.meth (X : ZX) := X.2.2.2.2.2.2.2.2.1
abbrev ZX.c (X : ZX) := X.2.2.2.2.2.2.2.2.2.1
abbrev ZX.g (X : ZX) := X.2.2.2.2.2.2.2.2.2.2.1
abbrev ZX.S0 (X : ZX) := X.2.2.2.2.2.2.2.2.2.2.2.1
abbrev ZX.ad (X : ZX) := X.2.2.2.2.2.2.2.2.2.2.2.2.1
abbrev ZX.K (X : ZX) := X.2.2.2.2.2.2.2.2.2.2.2.2.2.1
abbrev ZX.ce (X : ZX) := X.2.2.2.2.2.2.2.2.2.2.2.2.2.2.1
abbrev ZX.sl (X : ZX) := X.2.2.2.2.2.2.2.2.2.2.2.2.2.2.2.1
abbrev ZX.nL (X : ZX) := X.2.2.2.2.2.2.2.2.2.2.2.2.2.2.2.2.1
abbrev ZX.Q (X : ZX) := X.2.2.2.2.2.2.2.2.2.2.2.2.2.2.2.2.2
abbrev zGo (X : ZX) (H : Heap) (locs : List Loc) (f : JFrame) : Prop := W X.p X.l X.e X.R X.s X.m X.a X.b X.meth X.c H locs X.ce X.sl X.Q f
def ZOK (X : ZX) (pc : Nat) (P : ZP) : Prop :=
  ∀ (L : List (Option ZV)) (st : List ZV) (S : ZS) (ad : ZA) (H : Heap) (locs : List Loc) (ls : Array Slot), P L st S X.K → zW X.g ad S H → zMono X.S0 S → zExt X.S0 X.ad ad → va_S (zAA X.g) X.s.heap H locs → zLR ad S ls X.nL L → zlvs S st → zGo X H locs (F0 X.m pc ls (st.map (zc ad)))
/-- what the tables and the old heap give -/
def zqu (j : Nat) : Int32 := match j with
  | 0 => 2
  | 1 => 4
  | 2 => 6
  | _ => 5
def zstr : List (String × Nat × String) := [("Pointsbook", 153, "nobody gives points to themselves"), ("Pointsbook", 167, "fewer points are left"), ("Pointsbook", 225, "on points only whole hundreds of grams are sold"), ("Pointsbook", 303, "the last month does not end"), ("Pointsbook", 335, "no such good"), ("Pointsbook", 338, "no such person"), ("Pointsbook", 340, "no such depot"), ("Pointsbook", 342, "no such shop"), ("Pointsbook", 344, "no such farm"), ("Pointsbook", 346, "out of range"), ("Pointsbook", 348, "there are as many as can be"), ("Pointsbook", 350, "they are dead"), ("Pointsbook", 355, "they are dead, or the book is stolen"), ("Pointsbook", 357, "there are fewer"), ("Pointsbook", 359, "they may not buy so many grams there"), ("Pointsbook", 365, "the depots cannot supply so many")]
def zen (n : Nat) : String := match n with
  | 1 => "java/lang/IndexOutOfBoundsException"
  | 2 => "java/lang/IllegalArgumentException"
  | _ => "java/lang/IllegalStateException"
/-- words that the tables keep by rows of their own -/
def zxw : List Cond := [.castable "java/lang/IndexOutOfBoundsException" "java/lang/IndexOutOfBoundsException", .castable "java/lang/IllegalArgumentException" "java/lang/IllegalArgumentException", .castable "java/lang/IllegalStateException" "java/lang/IllegalStateException", .fieldLinkNest "Pointsbook$Person" 52 "Pointsbook" "QUARTERS" "[I" "Pointsbook", .declares ⟨"java/lang/RuntimeException", "<init>", "(Ljava/lang/String;)V"⟩, .declares ⟨"java/lang/Exception", "<init>", "(Ljava/lang/String;)V"⟩, .declares ⟨"java/lang/Throwable", "<init>", "(Ljava/lang/String;)V"⟩, .methodLinkNest "Pointsbook" 41 ⟨"Pointsbook$Sales", "<init>", "()V"⟩ "Pointsbook", .methodLinkNest "Pointsbook" 87 ⟨"Pointsbook$Good", "<init>", "()V"⟩ "Pointsbook", .methodLinkNest "Pointsbook$Shop" 25 ⟨"Pointsbook$Shelf", "<init>", "()V"⟩ "Pointsbook"]
theorem zxw_warm {s U : State} (hW : s.WarmedH U.vm) (h : ∀ w ∈ zxw, va_Nw w s) : ∀ w ∈ zxw, va_Nw w U :=
  List.forall_mem_cons.mpr ⟨va_Nw.warmC hW (h _ (List.mem_of_getElem? (i := 0) rfl)), List.forall_mem_cons.mpr ⟨va_Nw.warmC hW (h _ (List.mem_of_getElem? (i := 1) rfl)), List.forall_mem_cons.mpr ⟨va_Nw.warmC hW (h _ (List.mem_of_getElem? (i := 2) rfl)), List.forall_mem_cons.mpr ⟨va_Nw.warmF hW (h _ (List.mem_of_getElem? (i := 3) rfl)), List.forall_mem_cons.mpr ⟨va_Nw.warmD hW (h _ (List.mem_of_getElem? (i := 4) rfl)), List.forall_mem_cons.mpr ⟨va_Nw.warmD hW (h _ (List.mem_of_getElem? (i := 5) rfl)), List.forall_mem_cons.mpr ⟨va_Nw.warmD hW (h _ (List.mem_of_getElem? (i := 6) rfl)), List.forall_mem_cons.mpr ⟨va_Nw.warmM hW (h _ (List.mem_of_getElem? (i := 7) rfl)), List.forall_mem_cons.mpr ⟨va_Nw.warmM hW (h _ (List.mem_of_getElem? (i := 8) rfl)), List.forall_mem_cons.mpr ⟨va_Nw.warmM hW (h _ (List.mem_of_getElem? (i := 9) rfl)), fun _ h => (nomatch h)⟩⟩⟩⟩⟩⟩⟩⟩⟩⟩
/-- the kinds that rows of things are made of -/
def zao : List String := ["Pointsbook$Good", "Pointsbook$Person", "Pointsbook$Depot", "Pointsbook$Shop", "Pointsbook$Farm", "Pointsbook$Shelf"]
def zE (g : ZG) (s : State) : Prop :=
  (g.2.2 ≤ s.heap.size ∧ ∀ C ∈ zao, va_AO C s) ∧ va_K g.1 vwCl (zty g.2.1) s ∧ vx_Zq Bundle.tN "UNASSIGNED_STACK" Bundle.steD (zAA g) s s.heap ∧ vx_Zq Bundle.tN "SUPPRESSED_SENTINEL" Bundle.listD (zAA g) s s.heap ∧
  (∀ q ∈ zstr, ∃ sa, vk_R q.1 q.2.1 q.2.2 sa s) ∧ (∀ w ∈ zxw, va_Nw w s) ∧ (va_Nc (zen 2) (zen 1) s ∧ va_Nc (zen 3) (zen 1) s ∧ va_Nc (zen 3) (zen 2) s) ∧ ∃ qt, va_Z "Pointsbook" "QUARTERS" "[I" (.ref qt) (zAA g) s s.heap ∧ va_T .int qt 4 (fun j => .int (zqu j)) (zAA g) s s.heap
theorem zE.moved {g : ZG} {s U : State} (h : zE g s) (hW : s.WarmedH U.vm) (hz : s.heap.size ≤ U.heap.size) (hq : ∀ q : Nat, q < s.heap.size → ¬ zAA g q → U.heap[q]? = s.heap[q]?) : zE g U := by
  obtain ⟨h1, h2, h3, h4, h5, hxw, ⟨n1, n2, n3⟩, qt, h6, h7⟩ := h
  have hv := hW.alike
  exact ⟨⟨Nat.le_trans h1.1 hz, fun C hC => va_AO.moved hv (h1.2 C hC)⟩, va_K.moved hv h2, vx_Zq.moved hv (h3.kept hq), vx_Zq.moved hv (h4.kept hq), fun q hq9 => (h5 q hq9).elim fun sa hs => ⟨sa, hs.warm hW⟩, zxw_warm hW hxw, ⟨n1.moved hv, n2.moved hv, n3.moved hv⟩, qt, va_Z.moved hv (h6.kept hq), va_T.moved hv (h7.kept hq)⟩
def zQc (g : ZG) (ad : ZA) (S : ZS) (K : ZK) : Array Value → State → Outcome → State → Prop := fun _ st o t =>
  ∃ (v : Option ZV) (S' : ZS) (ad' : ZA), o = .returned (v.map (zc ad')) ∧ K (.inl v) S' ∧ zW g ad' S' t.heap ∧ zMono S S' ∧ zExt S ad ad' ∧ (∀ x, v = some x → zlvv S' x ∧ zc1 x) ∧ va_F (zAA g) st t
def zXC (g : ZG) (ad : ZA) (S : ZS) (K : ZK) : String → State → State → Prop := fun E st t =>
  ∃ (n : Nat) (S' : ZS) (ad' : ZA), E = zen n ∧ 1 ≤ n ∧ n ≤ 3 ∧ K (.inr n) S' ∧ zW g ad' S' t.heap ∧ zMono S S' ∧ zExt S ad ad' ∧ va_F (zAA g) st t
/-- a return makes mc cells of ms places, a throw mx of my -/
def zQm (Qc : Array Value → State → Outcome → State → Prop) (XC : String → State → State → Prop) (mc ms mx my : Nat) (free : Addr → Prop) : Array Value → State → Outcome → State → Prop := fun a st o t =>
  (Qc a st o t ∧ ∃ L, FrameEnd st o t L mc ms ∧ ∀ q ∈ L, free q.base) ∨ ∃ q, o = .threw q ∧ vx_T XC st q t mx my free
def zEndP (below : List Frame) (g : ZG) (ad : ZA) (S0 : ZS) (K : ZK) (args : Array Value) (s : State) (ce sl : Nat) : State → Prop := fun t =>
  ∃ o, t.status = .running ∧ Ended t below o ∧ zQm (zQc g ad S0 K) (zXC g ad S0 K) ce sl (ce + 1) (sl + 6) (zAA g) args s o t
abbrev zEnd (X : ZX) : State → Prop := zEndP X.b X.g X.ad X.S0 X.K X.a X.s X.ce X.sl
def wG : List Cond := lw_tbl.filter goodWord
theorem zg (i : Nat) {w : Cond} (h : lw_tbl[i]? = some w) (hg : goodWord w = true) : w ∈ wG := List.mem_filter.mpr ⟨List.mem_of_getElem? h, hg⟩
def zCx (X : ZX) (cc : ByteArray) (own : String) (ret : Option FieldType) (F Lo cx sx : Nat) : Prop :=
  X.p.tables.exec = Jvm.exec ∧ X.c.code = cc ∧ X.c.maxLocals = X.nL ∧ (∀ w ∈ wG, w.before X.a X.s = true) ∧ X.s.vm.findClass own = some X.m.cls ∧ X.meth.locks = false ∧ X.meth.sig.returnType = ret ∧ X.l.stackTraces = false ∧
  (own = "PointsbookLaw" ∨ ∀ x ∈ X.c.exceptionTable.toList, False) ∧ zE X.g X.s ∧ (∀ t, zEnd X t → X.Q t) ∧ F ≤ X.R.frames ∧ Lo ≤ X.R.locals ∧ X.ce + cx ≤ X.R.cells ∧ X.sl + sx ≤ X.R.slots
-- the instructions' meaning
def z_push (v : Int32) (k : ZP) : ZP := fun L st S K => k L (.inl v :: st) S K
def z_ild (i : Nat) (k : ZP) : ZP := fun L st S K => match znth L i with
  | some (.inl x) => k L (.inl x :: st) S K
  | _ => False
def z_ald (i : Nat) (k : ZP) : ZP := fun L st S K => match znth L i with
  | some (.inr (.inr r)) => k L (.inr (.inr r) :: st) S K
  | _ => False
def z_ist (i : Nat) (k : ZP) : ZP := fun L st S K => match st with
  | .inl x :: st => k (zset L i (.inl x)) st S K
  | _ => False
def z_ast (i : Nat) (k : ZP) : ZP := fun L st S K => match st with
  | .inr (.inr r) :: st => k (zset L i (.inr (.inr r))) st S K
  | _ => False
def z_inc (i : Nat) (n : Int32) (k : ZP) : ZP := fun L st S K => match znth L i with
  | some (.inl x) => k (zset L i (.inl (x + n))) st S K
  | _ => False
def z_bin (f : Int32 → Int32 → Int32) (k : ZP) : ZP := fun L st S K => match st with
  | .inl y :: .inl x :: st => k L (.inl (f x y) :: st) S K
  | _ => False
def z_dvn (f : Int32 → Int32 → Int32) (k : ZP) : ZP := fun L st S K => match st with
  | .inl y :: .inl x :: st => ¬ y = 0 ∧ k L (.inl (f x y) :: st) S K
  | _ => False
def z_un (f : Int32 → Int32) (k : ZP) : ZP := fun L st S K => match st with
  | .inl x :: st => k L (.inl (f x) :: st) S K
  | _ => False
def z_i2l (k : ZP) : ZP := fun L st S K => match st with
  | .inl x :: st => k L (.inr (.inl x.toInt64) :: st) S K
  | _ => False
def z_l2i (k : ZP) : ZP := fun L st S K => match st with
  | .inr (.inl x) :: st => k L (.inl x.toInt32 :: st) S K
  | _ => False
def z_lpush (v : Int64) (k : ZP) : ZP := fun L st S K => k L (.inr (.inl v) :: st) S K
def z_lbin (f : Int64 → Int64 → Int64) (k : ZP) : ZP := fun L st S K => match st with
  | .inr (.inl y) :: .inr (.inl x) :: st => k L (.inr (.inl (f x y)) :: st) S K
  | _ => False
def z_ldiv (k : ZP) : ZP := fun L st S K => match st with
  | .inr (.inl y) :: .inr (.inl x) :: st => ¬ y = 0 ∧ k L (.inr (.inl (x / y)) :: st) S K
  | _ => False
def z_lcmp (k : ZP) : ZP := fun L st S K => match st with
  | .inr (.inl y) :: .inr (.inl x) :: st => k L (.inl (lg_cmp x y) :: st) S K
  | _ => False
def z_dup (k : ZP) : ZP := fun L st S K => match st with
  | .inl x :: st => k L (.inl x :: .inl x :: st) S K
  | .inr (.inr r) :: st => k L (.inr (.inr r) :: .inr (.inr r) :: st) S K
  | _ => False
def z_dup2 (k : ZP) : ZP := fun L st S K => match st with
  | .inl y :: .inr (.inr r) :: st => k L (.inl y :: .inr (.inr r) :: .inl y :: .inr (.inr r) :: st) S K
  | _ => False
def z_pop (k : ZP) : ZP := fun L st S K => match st with
  | .inl _ :: st => k L st S K
  | .inr (.inr _) :: st => k L st S K
  | _ => False
def z_if (r : Int32 → Prop) (kt kf : ZP) : ZP := fun L st S K => match st with
  | .inl x :: st => (r x → kt L st S K) ∧ (¬ r x → kf L st S K)
  | _ => False
def z_cmp (r : Int32 → Int32 → Prop) (kt kf : ZP) : ZP := fun L st S K => match st with
  | .inl y :: .inl x :: st => (r x y → kt L st S K) ∧ (¬ r x y → kf L st S K)
  | _ => False
def z_ifnull (kt kf : ZP) : ZP := fun L st S K => match st with
  | .inr (.inr none) :: st => kt L st S K
  | .inr (.inr (some _)) :: st => kf L st S K
  | _ => False
def z_pnull (k : ZP) : ZP := fun L st S K => k L (.inr (.inr none) :: st) S K
/-- if_acmpne of two things of one kind -/
def z_acn (kt kf : ZP) : ZP := fun L st S K => match st with
  | .inr (.inr (some q)) :: .inr (.inr (some r)) :: st => bif Nat.beq q.1 6 && Nat.beq r.1 6 then (¬ r.2 = q.2 → kt L st S K) ∧ (r.2 = q.2 → kf L st S K) else False
  | _ => False
def z_gf (k f : Nat) (kk : ZP) : ZP := fun L st S K => match st with
  | .inr (.inr (some q)) :: st => bif Nat.beq q.1 k then kk L (zfld S k q.2 f :: st) S K else False
  | _ => False
/-- a field that may be null: both ways -/
def z_gfn (k f k2 : Nat) (kk : ZP) : ZP := fun L st S K => match st with
  | .inr (.inr (some q)) :: st => bif Nat.beq q.1 k then (S k q.2 f < 0 → kk L (.inr (.inr none) :: st) S K) ∧ (¬ S k q.2 f < 0 → kk L (.inr (.inr (some (k2, (S k q.2 f).toNatClampNeg))) :: st) S K) else False
  | _ => False
def z_pf (k f : Nat) (kk : ZP) : ZP := fun L st S K => match st with
  | .inl v :: .inr (.inr (some q)) :: st => bif Nat.beq q.1 k then kk L st (zup S k q.2 f v) K else False
  | _ => False
/-- a boolean field: 0 or 1 -/
def z_pfz (k f : Nat) (kk : ZP) : ZP := fun L st S K => match st with
  | .inl v :: .inr (.inr (some q)) :: st => bif Nat.beq q.1 k then (v = 0 ∨ v = 1) ∧ kk L st (zup S k q.2 f v) K else False
  | _ => False
/-- registered, next: a shop -/
def z_pfr (f : Nat) (kk : ZP) : ZP := fun L st S K => match st with
  | .inr (.inr (some q2)) :: .inr (.inr (some q)) :: st => bif Nat.beq q.1 3 && Nat.beq q2.1 6 then kk L st (zup S 3 q.2 f (nI q2.2)) K else False
  | _ => False
def z_iald (kk : ZP) : ZP := fun L st S K => match st with
  | .inl i :: .inr (.inr (some q)) :: st => bif (Nat.ble 9 q.1 && Nat.ble q.1 15) || Nat.beq q.1 22 then vp_in i (zlen q.1 q.2) ∧ kk L (.inl (S q.1 q.2 i.toNatClampNeg) :: st) S K else False
  | _ => False
def z_iast (kk : ZP) : ZP := fun L st S K => match st with
  | .inl v :: .inl i :: .inr (.inr (some q)) :: st => bif (Nat.ble 9 q.1 && Nat.ble q.1 15) || Nat.beq q.1 22 then vp_in i (zlen q.1 q.2) ∧ kk L st (zup S q.1 q.2 i.toNatClampNeg v) K else False
  | _ => False
def z_bald (kk : ZP) : ZP := fun L st S K => match st with
  | .inl i :: .inr (.inr (some q)) :: st => bif Nat.beq q.1 23 then vp_in i 20 ∧ kk L (.inl (S 23 q.2 i.toNatClampNeg) :: st) S K else False
  | _ => False
def z_bast (kk : ZP) : ZP := fun L st S K => match st with
  | .inl v :: .inl i :: .inr (.inr (some q)) :: st => bif Nat.beq q.1 23 then (v = 0 ∨ v = 1) ∧ vp_in i 20 ∧ kk L st (zup S 23 q.2 i.toNatClampNeg v) K else False
  | _ => False
def zcnt (S : ZS) (k : Nat) : Nat := match k with
  | 17 => nP S
  | 18 => nD S
  | 19 => nS S
  | 20 => nF S
  | _ => 6
def zchild (k i j : Nat) : Nat × Nat := match k with
  | 16 => (2, j)
  | 17 => (3, j)
  | 18 => (0, j)
  | 19 => (6, j)
  | 20 => (1, j)
  | _ => (5, 6 * i + j)
def z_aald (kk : ZP) : ZP := fun L st S K => match st with
  | .inl i :: .inr (.inr (some q)) :: st => bif Nat.ble 16 q.1 && Nat.ble q.1 21 then vp_in i (zlen q.1 q.2) ∧ i.toNatClampNeg < zcnt S q.1 ∧ kk L (.inr (.inr (some (zchild q.1 q.2 i.toNatClampNeg))) :: st) S K else False
  | _ => False
def z_alen (kk : ZP) : ZP := fun L st S K => match st with
  | .inr (.inr (some q)) :: st => bif Nat.ble 9 q.1 && Nat.ble q.1 23 then kk L (.inl (nI (zlen q.1 q.2)) :: st) S K else False
  | _ => False
def z_ret (k : Nat) : ZP := fun _ st S K => match st with
  | [.inl x] => bif Nat.beq k 1 then K (.inl (some (.inl x))) S else bif Nat.beq k 2 then (x = 0 ∨ x = 1) ∧ K (.inl (some (.inl x))) S else False
  | [.inr (.inr r)] => bif Nat.beq k 3 then K (.inl (some (.inr (.inr r)))) S else False
  | [] => bif Nat.beq k 0 then K (.inl none) S else False
  | _ => False
def zc1b (v : ZV) : Bool := match v with
  | .inr (.inl _) => false
  | _ => true
def zcont (kk : ZP) (L : List (Option ZV)) (st : List ZV) (K : ZK) : ZK := fun o S' => match o with
  | .inl none => kk L st S' K
  | .inl (some v) => kk L (v :: st) S' K
  | .inr n => K (.inr n) S'
/-- a call by a receiver of kind k, with n more arguments -/
def z_invV (k n : Nat) (sp : ZSp) (kk : ZP) : ZP := fun L st S K => match ztake (n + 1) st [] with
  | some (.inr (.inr (some q)) :: as, st') => bif Nat.beq q.1 k && (Nat.ble st'.length 4 && as.all zc1b) then sp (.inr (.inr (some q)) :: as) S (zcont kk L st' K) else False
  | _ => False
def z_invS (n : Nat) (sp : ZSp) (kk : ZP) : ZP := fun L st S K => match ztake n st [] with
  | some (as, st') => bif Nat.ble st'.length 4 && as.all zc1b then sp as S (zcont kk L st' K) else False
  | none => False
def z_throw (n : Nat) : ZP := fun _ st S K => bif Nat.ble st.length 4 then K (.inr n) S else False
/-- a switch: number by number, then the rest -/
def z_sw : List (Int32 × ZP) → ZP → ZP
  | [], d => fun L st S K => match st with
    | .inl _ :: st' => d L st' S K
    | _ => False
  | q :: cs, d => fun L st S K => match st with
    | .inl x :: st' => (x = q.1 → q.2 L st' S K) ∧ (¬ x = q.1 → z_sw cs d L st S K)
    | _ => False
theorem z_iconst_ok {X : ZX} {cc : ByteArray} {pc : Nat} {k : ZP} (hx : X.p.tables.exec = Jvm.exec) (hb : X.c.code = cc) {n : Int} {v : Int32} (hd : decode cc pc = .ok (.iconst n, 1)) (hv : Int32.ofInt n = v) (hk : ZOK X (pc + 1) k) : ZOK X pc (z_push v k) := by
  intro L st S ad H locs ls hP hW hM hE hS hL hl
  exact lv_iconst hx hb hd hv (hk L (.inl v :: st) S ad H locs ls hP hW hM hE hS hL ⟨trivial, hl⟩)
theorem z_bipush_ok {X : ZX} {cc : ByteArray} {pc : Nat} {k : ZP} (hx : X.p.tables.exec = Jvm.exec) (hb : X.c.code = cc) {n : Int} {v : Int32} (hd : decode cc pc = .ok (.bipush n, 2)) (hv : (Int8.ofInt n).toInt32 = v) (hk : ZOK X (pc + 2) k) : ZOK X pc (z_push v k) := by
  intro L st S ad H locs ls hP hW hM hE hS hL hl
  exact lv_bipush hx hb hd hv (hk L (.inl v :: st) S ad H locs ls hP hW hM hE hS hL ⟨trivial, hl⟩)
theorem z_sipush_ok {X : ZX} {cc : ByteArray} {pc : Nat} {k : ZP} (hx : X.p.tables.exec = Jvm.exec) (hb : X.c.code = cc) {n : Int} {v : Int32} (hd : decode cc pc = .ok (.sipush n, 3)) (hv : (Int16.ofInt n).toInt32 = v) (hk : ZOK X (pc + 3) k) : ZOK X pc (z_push v k) := by
  intro L st S ad H locs ls hP hW hM hE hS hL hl
  exact lv_sipush hx hb hd hv (hk L (.inl v :: st) S ad H locs ls hP hW hM hE hS hL ⟨trivial, hl⟩)
theorem z_iload_n_ok {X : ZX} {cc : ByteArray} {pc : Nat} {k : ZP} (hx : X.p.tables.exec = Jvm.exec) (hb : X.c.code = cc) {i : Nat} {k4 : Fin 4} (hd : decode cc pc = .ok (.iload_n k4, 1)) (hi : (k4 : Nat) = i) (hk : ZOK X (pc + 1) k) : ZOK X pc (z_ild i k) := by
  intro L st S ad H locs ls hP hW hM hE hS hL hl
  unfold z_ild at hP
  cases hv : znth L i with
  | none => rw [hv] at hP; exact False.elim hP
  | some v =>
    rw [hv] at hP
    rcases v with x | x
    · exact lv_iload_n hx hb hd hi (hL.2.2.2 i _ hv).1 (hk L (.inl x :: st) S ad H locs ls hP hW hM hE hS hL ⟨trivial, hl⟩)
    · exact False.elim hP
theorem z_iload_ok {X : ZX} {cc : ByteArray} {pc : Nat} {k : ZP} (hx : X.p.tables.exec = Jvm.exec) (hb : X.c.code = cc) {i : Nat} (hd : decode cc pc = .ok (.iload i, 2)) (hk : ZOK X (pc + 2) k) : ZOK X pc (z_ild i k) := by
  intro L st S ad H locs ls hP hW hM hE hS hL hl
  unfold z_ild at hP
  cases hv : znth L i with
  | none => rw [hv] at hP; exact False.elim hP
  | some v =>
    rw [hv] at hP
    rcases v with x | x
    · exact lv_iload hx hb hd (hL.2.2.2 i _ hv).1 (hk L (.inl x :: st) S ad H locs ls hP hW hM hE hS hL ⟨trivial, hl⟩)
    · exact False.elim hP
theorem z_aload_n_ok {X : ZX} {cc : ByteArray} {pc : Nat} {k : ZP} (hx : X.p.tables.exec = Jvm.exec) (hb : X.c.code = cc) {i : Nat} {k4 : Fin 4} (hd : decode cc pc = .ok (.aload_n k4, 1)) (hi : (k4 : Nat) = i) (hk : ZOK X (pc + 1) k) : ZOK X pc (z_ald i k) := by
  intro L st S ad H locs ls hP hW hM hE hS hL hl
  unfold z_ald at hP
  cases hv : znth L i with
  | none => rw [hv] at hP; exact False.elim hP
  | some v =>
    rw [hv] at hP
    rcases v with x | x | _ | q
    · exact False.elim hP
    · exact False.elim hP
    · exact lv_aload_nN hx hb hd hi (hL.2.2.2 i _ hv).1 (hk L (.inr (.inr none) :: st) S ad H locs ls hP hW hM hE hS hL ⟨trivial, hl⟩)
    · exact lv_aload_n hx hb hd hi (hL.2.2.2 i _ hv).1 (hk L (.inr (.inr (some q)) :: st) S ad H locs ls hP hW hM hE hS hL ⟨(hL.2.2.2 i _ hv).2.1, hl⟩)
theorem z_aload_ok {X : ZX} {cc : ByteArray} {pc : Nat} {k : ZP} (hx : X.p.tables.exec = Jvm.exec) (hb : X.c.code = cc) {i : Nat} (hd : decode cc pc = .ok (.aload i, 2)) (hk : ZOK X (pc + 2) k) : ZOK X pc (z_ald i k) := by
  intro L st S ad H locs ls hP hW hM hE hS hL hl
  unfold z_ald at hP
  cases hv : znth L i with
  | none => rw [hv] at hP; exact False.elim hP
  | some v =>
    rw [hv] at hP
    rcases v with x | x | _ | q
    · exact False.elim hP
    · exact False.elim hP
    · exact lv_aloadN hx hb hd (hL.2.2.2 i _ hv).1 (hk L (.inr (.inr none) :: st) S ad H locs ls hP hW hM hE hS hL ⟨trivial, hl⟩)
    · exact lv_aload hx hb hd (hL.2.2.2 i _ hv).1 (hk L (.inr (.inr (some q)) :: st) S ad H locs ls hP hW hM hE hS hL ⟨(hL.2.2.2 i _ hv).2.1, hl⟩)
theorem z_istore_n_ok {X : ZX} {cc : ByteArray} {pc : Nat} {k : ZP} (hx : X.p.tables.exec = Jvm.exec) (hb : X.c.code = cc) {i : Nat} {k4 : Fin 4} (hd : decode cc pc = .ok (.istore_n k4, 1)) (hi : (k4 : Nat) = i) (hn : i < X.nL) (hk : ZOK X (pc + 1) k) : ZOK X pc (z_ist i k) := by
  intro L st S ad H locs ls hP hW hM hE hS hL hl
  rcases st with _ | ⟨x | x, st⟩
  · exact False.elim hP
  · exact lv_istore_n hx hb hd hi hL.has hn rfl (fun ls' h' => hk (zset L i (.inl x)) st S ad H locs ls' hP hW hM hE hS (hL.st (v := .inl x) trivial trivial h') hl.2)
  · exact False.elim hP
theorem z_istore_ok {X : ZX} {cc : ByteArray} {pc : Nat} {k : ZP} (hx : X.p.tables.exec = Jvm.exec) (hb : X.c.code = cc) {i : Nat} (hd : decode cc pc = .ok (.istore i, 2)) (hn : i < X.nL) (hk : ZOK X (pc + 2) k) : ZOK X pc (z_ist i k) := by
  intro L st S ad H locs ls hP hW hM hE hS hL hl
  rcases st with _ | ⟨x | x, st⟩
  · exact False.elim hP
  · exact lv_istore hx hb hd hL.has hn rfl (fun ls' h' => hk (zset L i (.inl x)) st S ad H locs ls' hP hW hM hE hS (hL.st (v := .inl x) trivial trivial h') hl.2)
  · exact False.elim hP
theorem z_astore_n_ok {X : ZX} {cc : ByteArray} {pc : Nat} {k : ZP} (hx : X.p.tables.exec = Jvm.exec) (hb : X.c.code = cc) {i : Nat} {k4 : Fin 4} (hd : decode cc pc = .ok (.astore_n k4, 1)) (hi : (k4 : Nat) = i) (hn : i < X.nL) (hk : ZOK X (pc + 1) k) : ZOK X pc (z_ast i k) := by
  intro L st S ad H locs ls hP hW hM hE hS hL hl
  rcases st with _ | ⟨x | x | _ | q, st⟩
  · exact False.elim hP
  · exact False.elim hP
  · exact False.elim hP
  · exact lv_astore_nN hx hb hd hi hL.has hn rfl (fun ls' h' => hk (zset L i (.inr (.inr none))) st S ad H locs ls' hP hW hM hE hS (hL.st (v := .inr (.inr none)) trivial trivial h') hl.2)
  · exact lv_astore_n hx hb hd hi hL.has hn rfl (fun ls' h' => hk (zset L i (.inr (.inr (some q)))) st S ad H locs ls' hP hW hM hE hS (hL.st (v := .inr (.inr (some q))) hl.1 trivial h') hl.2)
theorem z_astore_ok {X : ZX} {cc : ByteArray} {pc : Nat} {k : ZP} (hx : X.p.tables.exec = Jvm.exec) (hb : X.c.code = cc) {i : Nat} (hd : decode cc pc = .ok (.astore i, 2)) (hn : i < X.nL) (hk : ZOK X (pc + 2) k) : ZOK X pc (z_ast i k) := by
  intro L st S ad H locs ls hP hW hM hE hS hL hl
  rcases st with _ | ⟨x | x | _ | q, st⟩
  · exact False.elim hP
  · exact False.elim hP
  · exact False.elim hP
  · exact lv_astoreN hx hb hd hL.has hn rfl (fun ls' h' => hk (zset L i (.inr (.inr none))) st S ad H locs ls' hP hW hM hE hS (hL.st (v := .inr (.inr none)) trivial trivial h') hl.2)
  · exact lv_astore hx hb hd hL.has hn rfl (fun ls' h' => hk (zset L i (.inr (.inr (some q)))) st S ad H locs ls' hP hW hM hE hS (hL.st (v := .inr (.inr (some q))) hl.1 trivial h') hl.2)
theorem zlst_get {ad : ZA} {L : List (Option ZV)} {i : Nat} {v : ZV} (h : znth L i = some v) : ∃ k : Nat, (zlst ad L)[k]? = some (i, zc ad v) :=
  List.getElem?_of_mem (List.mem_filterMap.mpr ⟨i, List.mem_range.mpr (znth_lt h), by rw [h]; rfl⟩)
theorem z_iinc_ok {X : ZX} {cc : ByteArray} {pc : Nat} {k : ZP} (hx : X.p.tables.exec = Jvm.exec) (hb : X.c.code = cc) {i : Nat} {n : Int} {v : Int32} (hd : decode cc pc = .ok (.iinc i n, 3)) (hv : Int32.ofInt n = v) (hn : i < X.nL) (hk : ZOK X (pc + 3) k) : ZOK X pc (z_inc i v k) := by
  intro L st S ad H locs ls hP hW hM hE hS hL hl
  unfold z_inc at hP
  cases hz : znth L i with
  | none => rw [hz] at hP; exact False.elim hP
  | some w =>
    rw [hz] at hP
    rcases w with x | x
    · obtain ⟨j, hj⟩ := zlst_get (ad := ad) hz
      exact lv_iinc (v := x + v) hx hb hd hL.has hj (by rw [hv]) hn rfl (fun ls' h' => hk (zset L i (.inl (x + v))) st S ad H locs ls' hP hW hM hE hS (hL.st (v := .inl (x + v)) trivial trivial h') hl)
    · exact False.elim hP
theorem z_iadd_ok {X : ZX} {cc : ByteArray} {pc : Nat} {k : ZP} (hx : X.p.tables.exec = Jvm.exec) (hb : X.c.code = cc) (hd : decode cc pc = .ok (.iadd, 1)) (hk : ZOK X (pc + 1) k) : ZOK X pc (z_bin (fun x y => x + y) k) := by
  intro L st S ad H locs ls hP hW hM hE hS hL hl
  rcases st with _ | ⟨y | y, _ | ⟨x | x, st⟩⟩
  · exact False.elim hP
  · exact False.elim hP
  · exact lv_iadd hx hb hd (hk L (.inl (x + y) :: st) S ad H locs ls hP hW hM hE hS hL ⟨trivial, hl.2.2⟩)
  · exact False.elim hP
  · exact False.elim hP
  · exact False.elim hP
  · exact False.elim hP
theorem z_isub_ok {X : ZX} {cc : ByteArray} {pc : Nat} {k : ZP} (hx : X.p.tables.exec = Jvm.exec) (hb : X.c.code = cc) (hd : decode cc pc = .ok (.isub, 1)) (hk : ZOK X (pc + 1) k) : ZOK X pc (z_bin (fun x y => x - y) k) := by
  intro L st S ad H locs ls hP hW hM hE hS hL hl
  rcases st with _ | ⟨y | y, _ | ⟨x | x, st⟩⟩
  · exact False.elim hP
  · exact False.elim hP
  · exact lv_isub hx hb hd (hk L (.inl (x - y) :: st) S ad H locs ls hP hW hM hE hS hL ⟨trivial, hl.2.2⟩)
  · exact False.elim hP
  · exact False.elim hP
  · exact False.elim hP
  · exact False.elim hP
theorem z_imul_ok {X : ZX} {cc : ByteArray} {pc : Nat} {k : ZP} (hx : X.p.tables.exec = Jvm.exec) (hb : X.c.code = cc) (hd : decode cc pc = .ok (.imul, 1)) (hk : ZOK X (pc + 1) k) : ZOK X pc (z_bin (fun x y => x * y) k) := by
  intro L st S ad H locs ls hP hW hM hE hS hL hl
  rcases st with _ | ⟨y | y, _ | ⟨x | x, st⟩⟩
  · exact False.elim hP
  · exact False.elim hP
  · exact lv_imul hx hb hd (hk L (.inl (x * y) :: st) S ad H locs ls hP hW hM hE hS hL ⟨trivial, hl.2.2⟩)
  · exact False.elim hP
  · exact False.elim hP
  · exact False.elim hP
  · exact False.elim hP
theorem z_iand_ok {X : ZX} {cc : ByteArray} {pc : Nat} {k : ZP} (hx : X.p.tables.exec = Jvm.exec) (hb : X.c.code = cc) (hd : decode cc pc = .ok (.iand, 1)) (hk : ZOK X (pc + 1) k) : ZOK X pc (z_bin (fun x y => x &&& y) k) := by
  intro L st S ad H locs ls hP hW hM hE hS hL hl
  rcases st with _ | ⟨y | y, _ | ⟨x | x, st⟩⟩
  · exact False.elim hP
  · exact False.elim hP
  · exact lv_iand hx hb hd (hk L (.inl (x &&& y) :: st) S ad H locs ls hP hW hM hE hS hL ⟨trivial, hl.2.2⟩)
  · exact False.elim hP
  · exact False.elim hP
  · exact False.elim hP
  · exact False.elim hP
theorem z_ior_ok {X : ZX} {cc : ByteArray} {pc : Nat} {k : ZP} (hx : X.p.tables.exec = Jvm.exec) (hb : X.c.code = cc) (hd : decode cc pc = .ok (.ior, 1)) (hk : ZOK X (pc + 1) k) : ZOK X pc (z_bin (fun x y => x ||| y) k) := by
  intro L st S ad H locs ls hP hW hM hE hS hL hl
  rcases st with _ | ⟨y | y, _ | ⟨x | x, st⟩⟩
  · exact False.elim hP
  · exact False.elim hP
  · exact lv_ior hx hb hd (hk L (.inl (x ||| y) :: st) S ad H locs ls hP hW hM hE hS hL ⟨trivial, hl.2.2⟩)
  · exact False.elim hP
  · exact False.elim hP
  · exact False.elim hP
  · exact False.elim hP
theorem z_idiv_ok {X : ZX} {cc : ByteArray} {pc : Nat} {k : ZP} (hx : X.p.tables.exec = Jvm.exec) (hb : X.c.code = cc) (hd : decode cc pc = .ok (.idiv, 1)) (hk : ZOK X (pc + 1) k) : ZOK X pc (z_dvn (fun x y => x / y) k) := by
  intro L st S ad H locs ls hP hW hM hE hS hL hl
  rcases st with _ | ⟨y | y, _ | ⟨x | x, st⟩⟩
  · exact False.elim hP
  · exact False.elim hP
  · exact lv_idiv hx hb hd hP.1 (hk L (.inl (x / y) :: st) S ad H locs ls hP.2 hW hM hE hS hL ⟨trivial, hl.2.2⟩)
  · exact False.elim hP
  · exact False.elim hP
  · exact False.elim hP
  · exact False.elim hP
theorem z_irem_ok {X : ZX} {cc : ByteArray} {pc : Nat} {k : ZP} (hx : X.p.tables.exec = Jvm.exec) (hb : X.c.code = cc) (hd : decode cc pc = .ok (.irem, 1)) (hk : ZOK X (pc + 1) k) : ZOK X pc (z_dvn (fun x y => x - x / y * y) k) := by
  intro L st S ad H locs ls hP hW hM hE hS hL hl
  rcases st with _ | ⟨y | y, _ | ⟨x | x, st⟩⟩
  · exact False.elim hP
  · exact False.elim hP
  · exact lv_irem hx hb hd hP.1 (hk L (.inl (x - x / y * y) :: st) S ad H locs ls hP.2 hW hM hE hS hL ⟨trivial, hl.2.2⟩)
  · exact False.elim hP
  · exact False.elim hP
  · exact False.elim hP
  · exact False.elim hP
theorem z_ineg_ok {X : ZX} {cc : ByteArray} {pc : Nat} {k : ZP} (hx : X.p.tables.exec = Jvm.exec) (hb : X.c.code = cc) (hd : decode cc pc = .ok (.ineg, 1)) (hk : ZOK X (pc + 1) k) : ZOK X pc (z_un (fun x => -x) k) := by
  intro L st S ad H locs ls hP hW hM hE hS hL hl
  rcases st with _ | ⟨x | x, st⟩
  · exact False.elim hP
  · exact lv_ineg hx hb hd (hk L (.inl (-x) :: st) S ad H locs ls hP hW hM hE hS hL ⟨trivial, hl.2⟩)
  · exact False.elim hP
theorem z_i2l_ok {X : ZX} {cc : ByteArray} {pc : Nat} {k : ZP} (hx : X.p.tables.exec = Jvm.exec) (hb : X.c.code = cc) (hd : decode cc pc = .ok (.i2l, 1)) (hk : ZOK X (pc + 1) k) : ZOK X pc (z_i2l k) := by
  intro L st S ad H locs ls hP hW hM hE hS hL hl
  rcases st with _ | ⟨x | x, st⟩
  · exact False.elim hP
  · exact lv_i2l hx hb hd rfl (hk L (.inr (.inl x.toInt64) :: st) S ad H locs ls hP hW hM hE hS hL ⟨trivial, hl.2⟩)
  · exact False.elim hP
theorem z_l2i_ok {X : ZX} {cc : ByteArray} {pc : Nat} {k : ZP} (hx : X.p.tables.exec = Jvm.exec) (hb : X.c.code = cc) (hd : decode cc pc = .ok (.l2i, 1)) (hk : ZOK X (pc + 1) k) : ZOK X pc (z_l2i k) := by
  intro L st S ad H locs ls hP hW hM hE hS hL hl
  rcases st with _ | ⟨x | x | x, st⟩
  · exact False.elim hP
  · exact False.elim hP
  · exact lv_l2i hx hb hd rfl (hk L (.inl x.toInt32 :: st) S ad H locs ls hP hW hM hE hS hL ⟨trivial, hl.2⟩)
  · exact False.elim hP
theorem z_lmul_ok {X : ZX} {cc : ByteArray} {pc : Nat} {k : ZP} (hx : X.p.tables.exec = Jvm.exec) (hb : X.c.code = cc) (hd : decode cc pc = .ok (.lmul, 1)) (hk : ZOK X (pc + 1) k) : ZOK X pc (z_lbin (fun x y => x * y) k) := by
  intro L st S ad H locs ls hP hW hM hE hS hL hl
  rcases st with _ | ⟨y | y | y, _ | ⟨x | x | x, st⟩⟩
  · exact False.elim hP
  · exact False.elim hP
  · exact False.elim hP
  · exact False.elim hP
  · exact False.elim hP
  · exact False.elim hP
  · exact False.elim hP
  · exact lv_lmul hx hb hd (hk L (.inr (.inl (x * y)) :: st) S ad H locs ls hP hW hM hE hS hL ⟨trivial, hl.2.2⟩)
  · exact False.elim hP
  · exact False.elim hP
  · exact False.elim hP
  · exact False.elim hP
  · exact False.elim hP
theorem z_ldiv_ok {X : ZX} {cc : ByteArray} {pc : Nat} {k : ZP} (hx : X.p.tables.exec = Jvm.exec) (hb : X.c.code = cc) (hd : decode cc pc = .ok (.ldiv, 1)) (hk : ZOK X (pc + 1) k) : ZOK X pc (z_ldiv k) := by
  intro L st S ad H locs ls hP hW hM hE hS hL hl
  rcases st with _ | ⟨y | y | y, _ | ⟨x | x | x, st⟩⟩
  · exact False.elim hP
  · exact False.elim hP
  · exact False.elim hP
  · exact False.elim hP
  · exact False.elim hP
  · exact False.elim hP
  · exact False.elim hP
  · exact lv_ldiv hx hb hd hP.1 (hk L (.inr (.inl (x / y)) :: st) S ad H locs ls hP.2 hW hM hE hS hL ⟨trivial, hl.2.2⟩)
  · exact False.elim hP
  · exact False.elim hP
  · exact False.elim hP
  · exact False.elim hP
  · exact False.elim hP
theorem z_lcmp_ok {X : ZX} {cc : ByteArray} {pc : Nat} {k : ZP} (hx : X.p.tables.exec = Jvm.exec) (hb : X.c.code = cc) (hd : decode cc pc = .ok (.lcmp, 1)) (hk : ZOK X (pc + 1) k) : ZOK X pc (z_lcmp k) := by
  intro L st S ad H locs ls hP hW hM hE hS hL hl
  rcases st with _ | ⟨y | y | y, _ | ⟨x | x | x, st⟩⟩
  · exact False.elim hP
  · exact False.elim hP
  · exact False.elim hP
  · exact False.elim hP
  · exact False.elim hP
  · exact False.elim hP
  · exact False.elim hP
  · exact W.lcmp hx hb hd (hk L (.inl (lg_cmp x y) :: st) S ad H locs ls hP hW hM hE hS hL ⟨trivial, hl.2.2⟩)
  · exact False.elim hP
  · exact False.elim hP
  · exact False.elim hP
  · exact False.elim hP
  · exact False.elim hP
theorem z_dup_ok {X : ZX} {cc : ByteArray} {pc : Nat} {k : ZP} (hx : X.p.tables.exec = Jvm.exec) (hb : X.c.code = cc) (hd : decode cc pc = .ok (.dup, 1)) (hk : ZOK X (pc + 1) k) : ZOK X pc (z_dup k) := by
  intro L st S ad H locs ls hP hW hM hE hS hL hl
  rcases st with _ | ⟨x | x | x, st⟩
  · exact False.elim hP
  · exact lv_dup hx hb hd rfl (hk L (.inl x :: .inl x :: st) S ad H locs ls hP hW hM hE hS hL ⟨trivial, trivial, hl.2⟩)
  · exact False.elim hP
  · exact lv_dup hx hb hd (zcat (v := .inr (.inr x)) trivial) (hk L (.inr (.inr x) :: .inr (.inr x) :: st) S ad H locs ls hP hW hM hE hS hL ⟨hl.1, hl.1, hl.2⟩)
theorem z_dup2_ok {X : ZX} {cc : ByteArray} {pc : Nat} {k : ZP} (hx : X.p.tables.exec = Jvm.exec) (hb : X.c.code = cc) (hd : decode cc pc = .ok (.dup2, 1)) (hk : ZOK X (pc + 1) k) : ZOK X pc (z_dup2 k) := by
  intro L st S ad H locs ls hP hW hM hE hS hL hl
  rcases st with _ | ⟨y | y, _ | ⟨x | x | x, st⟩⟩
  · exact False.elim hP
  · exact False.elim hP
  · exact False.elim hP
  · exact False.elim hP
  · exact lv_dup2_11 hx hb hd rfl (zcat (v := .inr (.inr x)) trivial) (hk L (.inl y :: .inr (.inr x) :: .inl y :: .inr (.inr x) :: st) S ad H locs ls hP hW hM hE hS hL ⟨trivial, hl.2.1, trivial, hl.2.1, hl.2.2⟩)
  · exact False.elim hP
  · exact False.elim hP
  · exact False.elim hP
  · exact False.elim hP
theorem z_pop_ok {X : ZX} {cc : ByteArray} {pc : Nat} {k : ZP} (hx : X.p.tables.exec = Jvm.exec) (hb : X.c.code = cc) (hd : decode cc pc = .ok (.pop, 1)) (hk : ZOK X (pc + 1) k) : ZOK X pc (z_pop k) := by
  intro L st S ad H locs ls hP hW hM hE hS hL hl
  rcases st with _ | ⟨x | x | x, st⟩
  · exact False.elim hP
  · exact lv_pop hx hb hd rfl (hk L st S ad H locs ls hP hW hM hE hS hL hl.2)
  · exact False.elim hP
  · exact lv_pop hx hb hd (zcat (v := .inr (.inr x)) trivial) (hk L st S ad H locs ls hP hW hM hE hS hL hl.2)
theorem z_if_eq_ok {X : ZX} {cc : ByteArray} {pc tgt : Nat} {off : Int} {kt kf : ZP} (hx : X.p.tables.exec = Jvm.exec) (hb : X.c.code = cc) (hd : decode cc pc = .ok (.ifCond .eq off, 3)) (ht : (pc : Int) + off = (tgt : Int)) (h1 : ZOK X tgt kt) (h2 : ZOK X (pc + 3) kf) : ZOK X pc (z_if (fun x => x = 0) kt kf) := by
  intro L st S ad H locs ls hP hW hM hE hS hL hl
  rcases st with _ | ⟨x | x, st⟩
  · exact False.elim hP
  · exact lv_if_eq hx hb hd ht (fun q => h1 L st S ad H locs ls (hP.1 q) hW hM hE hS hL hl.2) (fun q => h2 L st S ad H locs ls (hP.2 q) hW hM hE hS hL hl.2)
  · exact False.elim hP
theorem z_icmp_eq_ok {X : ZX} {cc : ByteArray} {pc tgt : Nat} {off : Int} {kt kf : ZP} (hx : X.p.tables.exec = Jvm.exec) (hb : X.c.code = cc) (hd : decode cc pc = .ok (.if_icmp .eq off, 3)) (ht : (pc : Int) + off = (tgt : Int)) (h1 : ZOK X tgt kt) (h2 : ZOK X (pc + 3) kf) : ZOK X pc (z_cmp (fun x y => x = y) kt kf) := by
  intro L st S ad H locs ls hP hW hM hE hS hL hl
  rcases st with _ | ⟨y | y, _ | ⟨x | x, st⟩⟩
  · exact False.elim hP
  · exact False.elim hP
  · exact lv_icmp_eq hx hb hd ht (fun q => h1 L st S ad H locs ls (hP.1 q) hW hM hE hS hL hl.2.2) (fun q => h2 L st S ad H locs ls (hP.2 q) hW hM hE hS hL hl.2.2)
  · exact False.elim hP
  · exact False.elim hP
  · exact False.elim hP
  · exact False.elim hP
theorem z_if_lt_ok {X : ZX} {cc : ByteArray} {pc tgt : Nat} {off : Int} {kt kf : ZP} (hx : X.p.tables.exec = Jvm.exec) (hb : X.c.code = cc) (hd : decode cc pc = .ok (.ifCond .lt off, 3)) (ht : (pc : Int) + off = (tgt : Int)) (h1 : ZOK X tgt kt) (h2 : ZOK X (pc + 3) kf) : ZOK X pc (z_if (fun x => x < 0) kt kf) := by
  intro L st S ad H locs ls hP hW hM hE hS hL hl
  rcases st with _ | ⟨x | x, st⟩
  · exact False.elim hP
  · exact lv_if_lt hx hb hd ht (fun q => h1 L st S ad H locs ls (hP.1 q) hW hM hE hS hL hl.2) (fun q => h2 L st S ad H locs ls (hP.2 q) hW hM hE hS hL hl.2)
  · exact False.elim hP
theorem z_icmp_lt_ok {X : ZX} {cc : ByteArray} {pc tgt : Nat} {off : Int} {kt kf : ZP} (hx : X.p.tables.exec = Jvm.exec) (hb : X.c.code = cc) (hd : decode cc pc = .ok (.if_icmp .lt off, 3)) (ht : (pc : Int) + off = (tgt : Int)) (h1 : ZOK X tgt kt) (h2 : ZOK X (pc + 3) kf) : ZOK X pc (z_cmp (fun x y => x < y) kt kf) := by
  intro L st S ad H locs ls hP hW hM hE hS hL hl
  rcases st with _ | ⟨y | y, _ | ⟨x | x, st⟩⟩
  · exact False.elim hP
  · exact False.elim hP
  · exact lv_icmp_lt hx hb hd ht (fun q => h1 L st S ad H locs ls (hP.1 q) hW hM hE hS hL hl.2.2) (fun q => h2 L st S ad H locs ls (hP.2 q) hW hM hE hS hL hl.2.2)
  · exact False.elim hP
  · exact False.elim hP
  · exact False.elim hP
  · exact False.elim hP
theorem z_if_ge_ok {X : ZX} {cc : ByteArray} {pc tgt : Nat} {off : Int} {kt kf : ZP} (hx : X.p.tables.exec = Jvm.exec) (hb : X.c.code = cc) (hd : decode cc pc = .ok (.ifCond .ge off, 3)) (ht : (pc : Int) + off = (tgt : Int)) (h1 : ZOK X tgt kt) (h2 : ZOK X (pc + 3) kf) : ZOK X pc (z_if (fun x => 0 ≤ x) kt kf) := by
  intro L st S ad H locs ls hP hW hM hE hS hL hl
  rcases st with _ | ⟨x | x, st⟩
  · exact False.elim hP
  · exact lv_if_ge hx hb hd ht (fun q => h1 L st S ad H locs ls (hP.1 q) hW hM hE hS hL hl.2) (fun q => h2 L st S ad H locs ls (hP.2 q) hW hM hE hS hL hl.2)
  · exact False.elim hP
theorem z_icmp_ge_ok {X : ZX} {cc : ByteArray} {pc tgt : Nat} {off : Int} {kt kf : ZP} (hx : X.p.tables.exec = Jvm.exec) (hb : X.c.code = cc) (hd : decode cc pc = .ok (.if_icmp .ge off, 3)) (ht : (pc : Int) + off = (tgt : Int)) (h1 : ZOK X tgt kt) (h2 : ZOK X (pc + 3) kf) : ZOK X pc (z_cmp (fun x y => y ≤ x) kt kf) := by
  intro L st S ad H locs ls hP hW hM hE hS hL hl
  rcases st with _ | ⟨y | y, _ | ⟨x | x, st⟩⟩
  · exact False.elim hP
  · exact False.elim hP
  · exact lv_icmp_ge hx hb hd ht (fun q => h1 L st S ad H locs ls (hP.1 q) hW hM hE hS hL hl.2.2) (fun q => h2 L st S ad H locs ls (hP.2 q) hW hM hE hS hL hl.2.2)
  · exact False.elim hP
  · exact False.elim hP
  · exact False.elim hP
  · exact False.elim hP
theorem z_if_gt_ok {X : ZX} {cc : ByteArray} {pc tgt : Nat} {off : Int} {kt kf : ZP} (hx : X.p.tables.exec = Jvm.exec) (hb : X.c.code = cc) (hd : decode cc pc = .ok (.ifCond .gt off, 3)) (ht : (pc : Int) + off = (tgt : Int)) (h1 : ZOK X tgt kt) (h2 : ZOK X (pc + 3) kf) : ZOK X pc (z_if (fun x => 0 < x) kt kf) := by
  intro L st S ad H locs ls hP hW hM hE hS hL hl
  rcases st with _ | ⟨x | x, st⟩
  · exact False.elim hP
  · exact lv_if_gt hx hb hd ht (fun q => h1 L st S ad H locs ls (hP.1 q) hW hM hE hS hL hl.2) (fun q => h2 L st S ad H locs ls (hP.2 q) hW hM hE hS hL hl.2)
  · exact False.elim hP
theorem z_icmp_gt_ok {X : ZX} {cc : ByteArray} {pc tgt : Nat} {off : Int} {kt kf : ZP} (hx : X.p.tables.exec = Jvm.exec) (hb : X.c.code = cc) (hd : decode cc pc = .ok (.if_icmp .gt off, 3)) (ht : (pc : Int) + off = (tgt : Int)) (h1 : ZOK X tgt kt) (h2 : ZOK X (pc + 3) kf) : ZOK X pc (z_cmp (fun x y => y < x) kt kf) := by
  intro L st S ad H locs ls hP hW hM hE hS hL hl
  rcases st with _ | ⟨y | y, _ | ⟨x | x, st⟩⟩
  · exact False.elim hP
  · exact False.elim hP
  · exact lv_icmp_gt hx hb hd ht (fun q => h1 L st S ad H locs ls (hP.1 q) hW hM hE hS hL hl.2.2) (fun q => h2 L st S ad H locs ls (hP.2 q) hW hM hE hS hL hl.2.2)
  · exact False.elim hP
  · exact False.elim hP
  · exact False.elim hP
  · exact False.elim hP
theorem z_if_le_ok {X : ZX} {cc : ByteArray} {pc tgt : Nat} {off : Int} {kt kf : ZP} (hx : X.p.tables.exec = Jvm.exec) (hb : X.c.code = cc) (hd : decode cc pc = .ok (.ifCond .le off, 3)) (ht : (pc : Int) + off = (tgt : Int)) (h1 : ZOK X tgt kt) (h2 : ZOK X (pc + 3) kf) : ZOK X pc (z_if (fun x => x ≤ 0) kt kf) := by
  intro L st S ad H locs ls hP hW hM hE hS hL hl
  rcases st with _ | ⟨x | x, st⟩
  · exact False.elim hP
  · exact lv_if_le hx hb hd ht (fun q => h1 L st S ad H locs ls (hP.1 q) hW hM hE hS hL hl.2) (fun q => h2 L st S ad H locs ls (hP.2 q) hW hM hE hS hL hl.2)
  · exact False.elim hP
theorem z_icmp_le_ok {X : ZX} {cc : ByteArray} {pc tgt : Nat} {off : Int} {kt kf : ZP} (hx : X.p.tables.exec = Jvm.exec) (hb : X.c.code = cc) (hd : decode cc pc = .ok (.if_icmp .le off, 3)) (ht : (pc : Int) + off = (tgt : Int)) (h1 : ZOK X tgt kt) (h2 : ZOK X (pc + 3) kf) : ZOK X pc (z_cmp (fun x y => x ≤ y) kt kf) := by
  intro L st S ad H locs ls hP hW hM hE hS hL hl
  rcases st with _ | ⟨y | y, _ | ⟨x | x, st⟩⟩
  · exact False.elim hP
  · exact False.elim hP
  · exact lv_icmp_le hx hb hd ht (fun q => h1 L st S ad H locs ls (hP.1 q) hW hM hE hS hL hl.2.2) (fun q => h2 L st S ad H locs ls (hP.2 q) hW hM hE hS hL hl.2.2)
  · exact False.elim hP
  · exact False.elim hP
  · exact False.elim hP
  · exact False.elim hP
theorem z_if_ne_ok {X : ZX} {cc : ByteArray} {pc tgt : Nat} {off : Int} {kt kf : ZP} (hx : X.p.tables.exec = Jvm.exec) (hb : X.c.code = cc) (hd : decode cc pc = .ok (.ifCond .ne off, 3)) (ht : (pc : Int) + off = (tgt : Int)) (h1 : ZOK X tgt kt) (h2 : ZOK X (pc + 3) kf) : ZOK X pc (z_if (fun x => x = 0) kf kt) := by
  intro L st S ad H locs ls hP hW hM hE hS hL hl
  rcases st with _ | ⟨x | x, st⟩
  · exact False.elim hP
  · exact lv_if_ne hx hb hd ht (fun q => h1 L st S ad H locs ls (hP.2 q) hW hM hE hS hL hl.2) (fun q => h2 L st S ad H locs ls (hP.1 q) hW hM hE hS hL hl.2)
  · exact False.elim hP
theorem z_icmp_ne_ok {X : ZX} {cc : ByteArray} {pc tgt : Nat} {off : Int} {kt kf : ZP} (hx : X.p.tables.exec = Jvm.exec) (hb : X.c.code = cc) (hd : decode cc pc = .ok (.if_icmp .ne off, 3)) (ht : (pc : Int) + off = (tgt : Int)) (h1 : ZOK X tgt kt) (h2 : ZOK X (pc + 3) kf) : ZOK X pc (z_cmp (fun x y => x = y) kf kt) := by
  intro L st S ad H locs ls hP hW hM hE hS hL hl
  rcases st with _ | ⟨y | y, _ | ⟨x | x, st⟩⟩
  · exact False.elim hP
  · exact False.elim hP
  · exact lv_icmp_ne hx hb hd ht (fun q => h1 L st S ad H locs ls (hP.2 q) hW hM hE hS hL hl.2.2) (fun q => h2 L st S ad H locs ls (hP.1 q) hW hM hE hS hL hl.2.2)
  · exact False.elim hP
  · exact False.elim hP
  · exact False.elim hP
  · exact False.elim hP
theorem z_goto_ok {X : ZX} {cc : ByteArray} {pc tgt : Nat} {off : Int} {k : ZP} (hx : X.p.tables.exec = Jvm.exec) (hb : X.c.code = cc) (hd : decode cc pc = .ok (.goto off, 3)) (ht : (pc : Int) + off = (tgt : Int)) (h1 : ZOK X tgt k) : ZOK X pc k := fun L st S ad H locs ls hP hW hM hE hS hL hl => lv_goto hx hb hd ht (h1 L st S ad H locs ls hP hW hM hE hS hL hl)
theorem z_ifnull_ok {X : ZX} {cc : ByteArray} {pc tgt : Nat} {off : Int} {kt kf : ZP} (hx : X.p.tables.exec = Jvm.exec) (hb : X.c.code = cc) (hd : decode cc pc = .ok (.ifnull off, 3)) (ht : (pc : Int) + off = (tgt : Int)) (h1 : ZOK X tgt kt) (h2 : ZOK X (pc + 3) kf) : ZOK X pc (z_ifnull kt kf) := by
  intro L st S ad H locs ls hP hW hM hE hS hL hl
  rcases st with _ | ⟨x | x | _ | q, st⟩
  · exact False.elim hP
  · exact False.elim hP
  · exact False.elim hP
  · exact lv_ifnullN hx hb hd ht (h1 L st S ad H locs ls hP hW hM hE hS hL hl.2)
  · exact lv_ifnull hx hb hd (h2 L st S ad H locs ls hP hW hM hE hS hL hl.2)
theorem z_pnull_ok {X : ZX} {cc : ByteArray} {pc : Nat} {k : ZP} (hx : X.p.tables.exec = Jvm.exec) (hb : X.c.code = cc) (hd : decode cc pc = .ok (.aconst_null, 1)) (hk : ZOK X (pc + 1) k) : ZOK X pc (z_pnull k) := by
  intro L st S ad H locs ls hP hW hM hE hS hL hl
  exact lv_null hx hb hd (hk L (.inr (.inr none) :: st) S ad H locs ls hP hW hM hE hS hL ⟨trivial, hl⟩)
theorem z_acn_ok {X : ZX} {cc : ByteArray} {pc tgt : Nat} {off : Int} {kt kf : ZP} (hx : X.p.tables.exec = Jvm.exec) (hb : X.c.code = cc) (hd : decode cc pc = .ok (.if_acmp .ne off, 3)) (ht : (pc : Int) + off = (tgt : Int)) (h1 : ZOK X tgt kt) (h2 : ZOK X (pc + 3) kf) : ZOK X pc (z_acn kt kf) := by
  intro L st S ad H locs ls hP hW hM hE hS hL hl
  rcases st with _ | ⟨y | y | _ | ⟨a, i⟩, _ | ⟨x | x | _ | ⟨b, j⟩, st⟩⟩ <;> try exact False.elim hP
  have hP0 : (bif Nat.beq a 6 && Nat.beq b 6 then (¬ j = i → kt L st S X.K) ∧ (j = i → kf L st S X.K) else False) := hP
  cases hq : Nat.beq a 6 && Nat.beq b 6 with
  | false => rw [hq] at hP0; exact False.elim hP0
  | true =>
    rw [hq] at hP0
    obtain ⟨hP1, hP2⟩ := hP0
    obtain ⟨ha, hb6⟩ := (Bool.and_eq_true _ _).mp hq
    have ha : a = 6 := Nat.eq_of_beq_eq_true ha
    have hb6 : b = 6 := Nat.eq_of_beq_eq_true hb6
    subst ha; subst hb6
    refine lv_acmp_ne (rx := some (ad 6 j)) (ry := some (ad 6 i)) hx hb hd ht (fun q => h1 L st S ad H locs ls (hP1 (fun e => q ?_)) hW hM hE hS hL hl.2.2) (fun q => h2 L st S ad H locs ls (hP2 ?_) hW hM hE hS hL hl.2.2)
    · rw [e]
    · exact (hW.2.1 6 j 6 i (by decide) (by decide) hl.2.1 hl.1 (Option.some.inj q)).2
end
section
/-! rows that read and write the world -/
section ZH
variable {X : ZX} {cc : ByteArray} {own : String} {ret : Option FieldType} {F Lo cx sx : Nat}
theorem zCx.hx (C : zCx X cc own ret F Lo cx sx) : X.p.tables.exec = Jvm.exec := C.1
theorem zCx.hb (C : zCx X cc own ret F Lo cx sx) : X.c.code = cc := C.2.1
theorem zCx.hml (C : zCx X cc own ret F Lo cx sx) : X.c.maxLocals = X.nL := C.2.2.1
theorem zCx.hw (C : zCx X cc own ret F Lo cx sx) : ∀ w ∈ wG, w.before X.a X.s = true := C.2.2.2.1
theorem zCx.hown (C : zCx X cc own ret F Lo cx sx) : X.s.vm.findClass own = some X.m.cls := C.2.2.2.2.1
theorem zCx.hlk (C : zCx X cc own ret F Lo cx sx) : X.meth.locks = false := C.2.2.2.2.2.1
theorem zCx.hr (C : zCx X cc own ret F Lo cx sx) : X.meth.sig.returnType = ret := C.2.2.2.2.2.2.1
theorem zCx.htr (C : zCx X cc own ret F Lo cx sx) : X.l.stackTraces = false := C.2.2.2.2.2.2.2.1
theorem zCx.hnh (C : zCx X cc own ret F Lo cx sx) (ho : own ≠ "PointsbookLaw") : ∀ x ∈ X.c.exceptionTable.toList, False := C.2.2.2.2.2.2.2.2.1.resolve_left ho
theorem zCx.hE (C : zCx X cc own ret F Lo cx sx) : zE X.g X.s := C.2.2.2.2.2.2.2.2.2.1
theorem zCx.hQ (C : zCx X cc own ret F Lo cx sx) : ∀ t, zEnd X t → X.Q t := C.2.2.2.2.2.2.2.2.2.2.1
theorem zCx.hF (C : zCx X cc own ret F Lo cx sx) : F ≤ X.R.frames := C.2.2.2.2.2.2.2.2.2.2.2.1
theorem zCx.hLo (C : zCx X cc own ret F Lo cx sx) : Lo ≤ X.R.locals := C.2.2.2.2.2.2.2.2.2.2.2.2.1
theorem zCx.hce (C : zCx X cc own ret F Lo cx sx) : X.ce + cx ≤ X.R.cells := C.2.2.2.2.2.2.2.2.2.2.2.2.2.1
theorem zCx.hsl (C : zCx X cc own ret F Lo cx sx) : X.sl + sx ≤ X.R.slots := C.2.2.2.2.2.2.2.2.2.2.2.2.2.2
/-- what is known of a kind of things -/
def zKl (k : Nat) (Cn : String) (T : u_T) (N : Nat) (ty : Nat → FieldType) : Prop :=
  vwCl[k]? = some (Cn, T, N) ∧ (∀ w ∈ u_ws Cn T N, w ∈ wG) ∧ (∀ j, j < N → parseFieldDescriptor (T j).2.2.1 = some (ty j)) ∧ (∀ a, a < N → ∀ b, b < N → a ≠ b → (T a).2.1 ≠ (T b).2.1) ∧ N = znf k ∧ k < 9
theorem zcon_ob {cA : Nat → ClassId} {ad : ZA} {S : ZS} {k i : Nat} (hk : k < 9) : zcon cA ad S k i = .inr (k, zobj ad (S k i) k i) := if_pos hk
theorem zP1 {D : va_G} {q : Nat × va_E} {H : Heap} (h : va_at D vwCl q H) : va_P D vwCl [q] H := fun k q' hk => by
  cases k with
  | zero => cases hk; exact h
  | succ k => cases hk
theorem zW.ob {g : ZG} {ad : ZA} {S : ZS} {H : Heap} (h : zW g ad S H) {k i : Nat} (hl : zlv S k i) (hk : k < 9) : va_at g.1 vwCl (ad k i, .inr (k, zobj ad (S k i) k i)) H := by
  have h1 := h.at (Nat.lt_trans hk (by decide)) hl
  rw [zcon_ob hk] at h1
  exact h1
theorem z_gf_ok {pc idx k f N : Nat} {Cn ref : String} {T : u_T} {ty : Nat → FieldType} {kk : ZP} (C : zCx X cc own ret F Lo cx sx) (hK : zKl k Cn T N ty) (hf : f < N) (hlink : Cond.fieldLink own idx ref (T f).2.1 (T f).2.2.1 ∈ wG) (href : (T f).1 = ref) (hd : decode cc pc = .ok (.getfield idx, 3)) (hk : ZOK X (pc + 3) kk) : ZOK X pc (z_gf k f kk) := by
  intro L st S ad H locs ls hP hW hM hE hS hL hl
  rcases st with _ | ⟨x | x | _ | ⟨a, i⟩, st⟩ <;> try exact False.elim hP
  have hP : (bif Nat.beq a k then kk L (zfld S k i f :: st) S X.K else False) := hP
  cases hq : Nat.beq a k with
  | false => rw [hq] at hP; exact False.elim hP
  | true =>
    rw [hq] at hP
    have hP : kk L (zfld S k i f :: st) S X.K := hP
    have ha : a = k := Nat.eq_of_beq_eq_true hq
    subst ha
    have hlv : zlv S a i := hl.1
    obtain ⟨h1, h2, h3, h4, h5, h6⟩ := hK
    refine va_get (D := X.g.1) (ci := a) (v := zc ad (zfld S a i f)) (C := Cn) (T := T) (N := N) C.hx C.hb C.hw h2 C.hown C.hE.2.1 (zP1 (hW.ob hlv h6)) 0 rfl h1 f hf (C.hw _ hlink) (fun x hx => by rw [← href]; exact hx) (zobj_get ad (S a i) a i f (by rw [← h5]; exact hf)) hd ?_
    exact hk L (zfld S a i f :: st) S ad H locs ls hP hW hM hE hS hL ⟨zfld_live hW.2.2.2 hlv h6, hl.2⟩
theorem z_gfn_ok {pc idx k f k2 N : Nat} {Cn ref : String} {T : u_T} {ty : Nat → FieldType} {kk : ZP} (C : zCx X cc own ret F Lo cx sx) (hK : zKl k Cn T N ty) (hsh : zshape k f = (4, k2)) (hf : f < N) (hlink : Cond.fieldLink own idx ref (T f).2.1 (T f).2.2.1 ∈ wG) (href : (T f).1 = ref) (hd : decode cc pc = .ok (.getfield idx, 3)) (hk : ZOK X (pc + 3) kk) : ZOK X pc (z_gfn k f k2 kk) := by
  intro L st S ad H locs ls hP hW hM hE hS hL hl
  refine z_gf_ok C hK hf hlink href hd hk L st S ad H locs ls ?_ hW hM hE hS hL hl
  rcases st with _ | ⟨x | x | _ | ⟨a, i⟩, st⟩ <;> try exact False.elim hP
  have hP : (bif Nat.beq a k then (S k i f < 0 → kk L (.inr (.inr none) :: st) S X.K) ∧ (¬ S k i f < 0 → kk L (.inr (.inr (some (k2, (S k i f).toNatClampNeg))) :: st) S X.K) else False) := hP
  show (bif Nat.beq a k then kk L (zfld S k i f :: st) S X.K else False)
  cases hq : Nat.beq a k with
  | false => rw [hq] at hP; exact False.elim hP
  | true =>
    rw [hq] at hP
    have hP : (S k i f < 0 → kk L (.inr (.inr none) :: st) S X.K) ∧ (¬ S k i f < 0 → kk L (.inr (.inr (some (k2, (S k i f).toNatClampNeg))) :: st) S X.K) := hP
    show kk L (zfldS (zshape k f) (S k i f) i f :: st) S X.K
    rw [hsh]
    show kk L (Sum.inr (Sum.inr (if S k i f < 0 then none else some (k2, (S k i f).toNatClampNeg))) :: st) S X.K
    by_cases hc : S k i f < 0
    · rw [if_pos hc]; exact hP.1 hc
    · rw [if_neg hc]; exact hP.2 hc
/-- a field is written: the cell by itself -/
theorem zput_raw {D : va_G} {cl : List vw_C} {tys : List (ClassId × FieldType)} {pc a : Nat} {H : Heap} {locs : List Loc} {ls : Array Slot} {rest : List Value} (hexec : X.p.tables.exec = Jvm.exec) (hb : X.c.code = cc) {own ref C : String} {T : u_T} {N ci index : Nat} {Ts : List Cond} (hts : ∀ w ∈ Ts, w.before X.a X.s = true) (hin : ∀ w ∈ u_ws C T N, w ∈ Ts) (ty0 : Nat → FieldType) (hty : ∀ k, k < N → parseFieldDescriptor (T k).2.2.1 = some (ty0 k)) (hnm : ∀ a, a < N → ∀ b, b < N → a ≠ b → (T a).2.1 ≠ (T b).2.1) (hown : X.s.vm.findClass own = some X.m.cls) (hK : va_K D cl tys X.s) {fs : List Value} (he : va_at D cl (a, .inr (ci, fs)) H) (hc : cl[ci]? = some (C, T, N)) (k : Nat) (hk : k < N) (hlink : (Cond.fieldLink own index ref (T k).2.1 (T k).2.2.1).before X.a X.s = true) (hsame : ∀ x, X.s.fieldFound? (T k).1 (T k).2.1 (T k).2.2.1 = some x → X.s.fieldFound? ref (T k).2.1 (T k).2.2.1 = some x) (hfin : (T k).2.2.2 = false) {ty : FieldType} {v : Value} (hd : parseFieldDescriptor (T k).2.2.1 = some ty) (hn : narrow ty v = v) (hfit : fits ty v = true) (hl : k < fs.length)
    (hdg : decode cc pc = .ok (.putfield index, 3)) (kk : ∀ (H1 : Heap) (j : Nat), va_at D cl (a, .inr (ci, fs.set k v)) H1 → H1.size = H.size → (∀ q : Nat, q ≠ a → H1[q]? = H[q]?) → zGo X H1 (locs ++ [⟨a, j⟩]) (F0 X.m (pc + 3) ls rest)) : zGo X H locs (F0 X.m pc ls (v :: .ref a :: rest)) := by
  have hap := va_apart (own := own) hts hin ty0 hty hnm hK hc
  obtain ⟨r, h1, cell, q1, q2, q3, q4⟩ := he
  have hr : r = (C, T, N) := Option.some.inj (h1.symm.trans hc)
  subst hr
  obtain ⟨hS, hfc, kC, hkC, hkind⟩ := hK.1 ci _ hc
  obtain ⟨cf, kf, fi, f, hi, hsl⟩ := hS k hk
  have hlay := hts _ (hin _ (u_in_lay hk))
  unfold u_lay at hlay
  rw [if_neg (by rw [hfin]; decide)] at hlay
  have hst := (u_facts hfc hkC (u_lays hts hin hk) hi).1
  have h6 := u_store hfc hkC hkind hlay hi hd hn hfit
  refine W.putK hexec hb (f := f) ⟨hown, hlink, ⟨_, _, _, hsame _ hi⟩, hst⟩ (by rw [q2]; exact h6) q1 q3 (by rw [hsl]; exact k2_hasslot (q4 k hk)) rfl rfl hdg fun H' e1 e2 e3 => ?_
  rw [hsl] at e1 ⊢
  exact kk H' _ ⟨_, hc, t_OB.to (V := updV (vp_V fs) k v) ⟨_, e1, q2, q3, t_set q4 hap hk v⟩ (fun j _ => vp_updV_set hl v j)⟩ e2 e3
theorem zobj_len {ad : ZA} {G : Nat → Int32} {k i : Nat} : (zobj ad G k i).length = znf k := by simp [zobj]
/-- behind a write of an int, or of a thing by its number -/
theorem zput_ok {pc idx k f N i : Nat} {Cn ref : String} {T : u_T} {ty : Nat → FieldType} {kk : ZP} {v : Int32} {x : ZV} {ft : FieldType} {L : List (Option ZV)} {st : List ZV} {S : ZS} {ad : ZA} {H : Heap} {locs : List Loc} {ls : Array Slot} (C : zCx X cc own ret F Lo cx sx) (hK : zKl k Cn T N ty) (hf : f < N) (hlink : Cond.fieldLink own idx ref (T f).2.1 (T f).2.2.1 ∈ wG) (href : (T f).1 = ref) (hfin : (T f).2.2.2 = false) (hft : parseFieldDescriptor (T f).2.2.1 = some ft) (hx : zfldS (zshape k f) v i f = x) (hnar : narrow ft (zc ad x) = zc ad x) (hfit : fits ft (zc ad x) = true) (hnc : k ≠ 7 ∨ f < 7 ∨ 10 < f) (hwf : zWF (zup S k i f v)) (hd : decode cc pc = .ok (.putfield idx, 3)) (hk : ZOK X (pc + 3) kk)
    (hlv : zlv S k i) (hP : kk L st (zup S k i f v) X.K) (hW : zW X.g ad S H) (hM : zMono X.S0 S) (hE : zExt X.S0 X.ad ad) (hS : va_S (zAA X.g) X.s.heap H locs) (hL : zLR ad S ls X.nL L) (hl : zlvs S st) : zGo X H locs (F0 X.m pc ls (zc ad x :: .ref (ad k i) :: st.map (zc ad))) := by
  obtain ⟨h1, h2, h3, h4, h5, h6⟩ := hK
  have hfk : f < znf k := by rw [← h5]; exact hf
  refine zput_raw (D := X.g.1) (ci := k) (ty := ft) (C := Cn) (T := T) (N := N) C.hx C.hb C.hw h2 ty h3 h4 C.hown C.hE.2.1 (hW.ob hlv h6) h1 f hf (C.hw _ hlink) (fun x hx => by rw [← href]; exact hx) hfin hft hnar hfit (by rw [zobj_len]; exact hfk) hd fun H1 j hat hz ho => ?_
  have hcnt := zup_cnt (S := S) (i := i) (v := v) hnc
  have hmono : zMono S (zup S k i f v) := ⟨Nat.le_of_eq hcnt.1.symm, Nat.le_of_eq hcnt.2.1.symm, Nat.le_of_eq hcnt.2.2.1.symm, Nat.le_of_eq hcnt.2.2.2.symm⟩
  refine hk L st (zup S k i f v) ad H1 _ ls hP (hW.put (Nat.lt_trans h6 (by decide)) hlv hnc hwf ?_ ho) (hM.tr hmono) hE (hS.put hz ho (hW.2.2.1 k i (Nat.lt_trans h6 (by decide)) hlv)) (hL.ext hmono zExt.rf) (hl.mono hmono)
  rw [zcon_ob h6, zup_fun, zobj_set ad (S k i) k i f v hfk x hx]
  exact hat
theorem z_pf_ok {pc idx k f N : Nat} {Cn ref : String} {T : u_T} {ty : Nat → FieldType} {kk : ZP} (C : zCx X cc own ret F Lo cx sx) (hK : zKl k Cn T N ty) (hsh : (zshape k f).1 = 0) (hz : zfix k f = false) (hf : f < N) (hlink : Cond.fieldLink own idx ref (T f).2.1 (T f).2.2.1 ∈ wG) (href : (T f).1 = ref) (hfin : (T f).2.2.2 = false) (hft : parseFieldDescriptor (T f).2.2.1 = some .int) (hd : decode cc pc = .ok (.putfield idx, 3)) (hk : ZOK X (pc + 3) kk) : ZOK X pc (z_pf k f kk) := by
  intro L st S ad H locs ls hP hW hM hE hS hL hl
  rcases st with _ | ⟨v | v, _ | ⟨x | x | _ | ⟨a, i⟩, st⟩⟩ <;> try exact False.elim hP
  have hP : (bif Nat.beq a k then kk L st (zup S k i f v) X.K else False) := hP
  cases hq : Nat.beq a k with
  | false => rw [hq] at hP; exact False.elim hP
  | true =>
    rw [hq] at hP
    have ha : a = k := Nat.eq_of_beq_eq_true hq
    subst ha
    exact zput_ok (x := .inl v) (ft := .int) C hK hf hlink href hfin hft (by unfold zfldS; rw [hsh]; rfl) rfl rfl (zfix_n hz) (hW.2.2.2.put hz) hd hk hl.2.1 hP hW hM hE hS hL hl.2.2
theorem z_pfz_ok {pc idx k f N : Nat} {Cn ref : String} {T : u_T} {ty : Nat → FieldType} {kk : ZP} (C : zCx X cc own ret F Lo cx sx) (hK : zKl k Cn T N ty) (hsh : (zshape k f).1 = 0) (hz : zfix k f = false) (hf : f < N) (hlink : Cond.fieldLink own idx ref (T f).2.1 (T f).2.2.1 ∈ wG) (href : (T f).1 = ref) (hfin : (T f).2.2.2 = false) (hft : parseFieldDescriptor (T f).2.2.1 = some .boolean) (hd : decode cc pc = .ok (.putfield idx, 3)) (hk : ZOK X (pc + 3) kk) : ZOK X pc (z_pfz k f kk) := by
  intro L st S ad H locs ls hP hW hM hE hS hL hl
  rcases st with _ | ⟨v | v, _ | ⟨x | x | _ | ⟨a, i⟩, st⟩⟩ <;> try exact False.elim hP
  have hP : (bif Nat.beq a k then (v = 0 ∨ v = 1) ∧ kk L st (zup S k i f v) X.K else False) := hP
  cases hq : Nat.beq a k with
  | false => rw [hq] at hP; exact False.elim hP
  | true =>
    rw [hq] at hP
    obtain ⟨h01, hP⟩ := hP
    have ha : a = k := Nat.eq_of_beq_eq_true hq
    subst ha
    exact zput_ok (x := .inl v) (ft := .boolean) C hK hf hlink href hfin hft (by unfold zfldS; rw [hsh]; rfl) (by rcases h01 with rfl | rfl <;> rfl) (by rcases h01 with rfl | rfl <;> rfl) (zfix_n hz) (hW.2.2.2.put hz) hd hk hl.2.1 hP hW hM hE hS hL hl.2.2
theorem zn_lt (x : Int32) : x.toNatClampNeg < 2 ^ 31 := by
  have h1 : x.toNatClampNeg = x.toInt.toNat := rfl
  have h2 := Int32.toInt_lt x
  omega
theorem z_pfr_ok {pc idx f N : Nat} {Cn ref : String} {T : u_T} {ty : Nat → FieldType} {kk : ZP} (C : zCx X cc own ret F Lo cx sx) (hK : zKl 3 Cn T N ty) (hf23 : f = 2 ∨ f = 3) (hf : f < N) (hlink : Cond.fieldLink own idx ref (T f).2.1 (T f).2.2.1 ∈ wG) (href : (T f).1 = ref) (hfin : (T f).2.2.2 = false) (hft : parseFieldDescriptor (T f).2.2.1 = some (.object "Pointsbook$Shop")) (hd : decode cc pc = .ok (.putfield idx, 3)) (hk : ZOK X (pc + 3) kk) : ZOK X pc (z_pfr f kk) := by
  intro L st S ad H locs ls hP hW hM hE hS hL hl
  rcases st with _ | ⟨v | v | _ | ⟨b, j⟩, _ | ⟨x | x | _ | ⟨a, i⟩, st⟩⟩ <;> try exact False.elim hP
  have hP2 : (bif Nat.beq a 3 && Nat.beq b 6 then kk L st (zup S 3 i f (nI j)) X.K else False) := hP
  cases hq : Nat.beq a 3 && Nat.beq b 6 with
  | false => rw [hq] at hP2; exact False.elim hP2
  | true =>
    rw [hq] at hP2
    have hP3 : kk L st (zup S 3 i f (nI j)) X.K := hP2
    obtain ⟨ha, hb⟩ := (Bool.and_eq_true _ _).mp hq
    have ha : a = 3 := Nat.eq_of_beq_eq_true ha
    have hb : b = 6 := Nat.eq_of_beq_eq_true hb
    subst ha; subst hb
    have hjs : j < nS S := hl.1
    have hj : j < 2 ^ 31 := Nat.lt_trans hjs (zn_lt _)
    have hsh : zshape 3 f = (3, 6) := by rcases hf23 with rfl | rfl <;> rfl
    have hx : zfldS (zshape 3 f) (nI j) i f = .inr (.inr (some (6, j))) := by
      rw [hsh]
      show zr 6 (nI j).toNatClampNeg = _
      rw [nI_clamp hj]
    have hnc : 3 ≠ 7 ∨ f < 7 ∨ 10 < f := Or.inl (by decide)
    have hwf : zWF (zup S 3 i f (nI j)) := by
      obtain ⟨c1, c2, c3, c4⟩ := zup_cnt (S := S) (i := i) (v := nI j) hnc
      obtain ⟨w1, w2, w3, w4⟩ := hW.2.2.2
      have key : ∀ a b j', a ≠ 3 → zup S 3 i f (nI j) a b j' = S a b j' := fun a b j' h => zfldS_up (fun q => h q.1)
      refine ⟨fun a ha => ?_, fun a ha => ?_, fun a ha => ?_, fun a ha => ?_⟩
      · rw [c1] at ha; rw [key 0 a 1 (by decide)]; exact w1 a ha
      · rw [c4] at ha; rw [key 1 a 0 (by decide), c1]; exact w2 a ha
      · rw [c2] at ha
        rw [c3]
        have h23 : ∀ f', (zup S 3 i f (nI j) 3 a f').toNatClampNeg = if a = i ∧ f' = f then j else (S 3 a f').toNatClampNeg := by
          intro f'
          by_cases he : a = i ∧ f' = f
          · rw [if_pos he, he.1, he.2, zup_self, nI_clamp hj]
          · rw [if_neg he, zfldS_up (fun q => he ⟨q.2.1, q.2.2⟩)]
        rw [h23, h23]
        have := w3 a ha
        constructor <;> split <;> omega
      · rw [c3] at ha; rw [key 6 a 1 (by decide), c1]; exact w4 a ha
    exact zput_ok (x := .inr (.inr (some (6, j)))) (ft := .object "Pointsbook$Shop") C hK hf hlink href hfin hft hx rfl rfl hnc hwf hd hk hl.2.1 hP3 hW hM hE hS hL hl.2.2
-- rows of ints
def zrow (k : Nat) : Bool := (Nat.ble 9 k && Nat.ble k 15) || Nat.beq k 22
theorem zcon_row {cA : Nat → ClassId} {ad : ZA} {S : ZS} {k i : Nat} (hk : zrow k = true) : zcon cA ad S k i = .inl (cA 0, (zlen k i, .inl (S k i))) := by
  have h : k = 9 ∨ k = 10 ∨ k = 11 ∨ k = 12 ∨ k = 13 ∨ k = 14 ∨ k = 15 ∨ k = 22 := by
    simp only [zrow, Bool.or_eq_true, Bool.and_eq_true, Nat.ble_eq, Nat.beq_eq] at hk
    omega
  rcases h with rfl | rfl | rfl | rfl | rfl | rfl | rfl | rfl <;> rfl
theorem zrow_lt {k : Nat} (hk : zrow k = true) : k < 25 := by
  simp only [zrow, Bool.or_eq_true, Bool.and_eq_true, Nat.ble_eq, Nat.beq_eq] at hk
  omega
theorem z_iald_ok {pc : Nat} {kk : ZP} (C : zCx X cc own ret F Lo cx sx) (hd : decode cc pc = .ok (.iaload, 1)) (hk : ZOK X (pc + 1) kk) : ZOK X pc (z_iald kk) := by
  intro L st S ad H locs ls hP hW hM hE hS hL hl
  rcases st with _ | ⟨v | v, _ | ⟨x | x | _ | ⟨a, i⟩, st⟩⟩ <;> try exact False.elim hP
  have hP : (bif zrow a then vp_in v (zlen a i) ∧ kk L (.inl (S a i v.toNatClampNeg) :: st) S X.K else False) := hP
  cases hq : zrow a with
  | false => rw [hq] at hP; exact False.elim hP
  | true =>
    rw [hq] at hP
    obtain ⟨hin, hP⟩ := hP
    have h1 := hW.at (zrow_lt hq) hl.2.1
    rw [zcon_row hq] at h1
    exact va_iald C.hx C.hb C.hE.2.1 (zP1 h1) 0 0 rfl rfl hin hd (hk L (.inl (S a i v.toNatClampNeg) :: st) S ad H locs ls hP hW hM hE hS hL ⟨trivial, hl.2.2⟩)
theorem zrow_n {k f : Nat} (h : 9 ≤ k) : zfix k f = false := by
  have h7 : Nat.beq k 7 = false := by rw [Bool.eq_false_iff]; intro h; have := Nat.eq_of_beq_eq_true h; omega
  have h0 : Nat.beq k 0 = false := by rw [Bool.eq_false_iff]; intro h; have := Nat.eq_of_beq_eq_true h; omega
  have h1 : Nat.beq k 1 = false := by rw [Bool.eq_false_iff]; intro h; have := Nat.eq_of_beq_eq_true h; omega
  have h3 : Nat.beq k 3 = false := by rw [Bool.eq_false_iff]; intro h; have := Nat.eq_of_beq_eq_true h; omega
  have h6 : Nat.beq k 6 = false := by rw [Bool.eq_false_iff]; intro h; have := Nat.eq_of_beq_eq_true h; omega
  simp [zfix, h7, h0, h1, h3, h6]
theorem zup_upd (S : ZS) (k i j : Nat) (v : Int32) : zup S k i j v k i = upd (S k i) j v := by
  rw [zup_fun]; rfl
theorem zast_ok {pc k i j : Nat} {kk : ZP} {v : Int32} {L : List (Option ZV)} {st : List ZV} {S : ZS} {ad : ZA} {H H1 : Heap} {locs : List Loc} {ls : Array Slot} (h9 : 9 ≤ k) (h25 : k < 25) (hk : ZOK X (pc + 1) kk)
    (hlv : zlv S k i) (hP : kk L st (zup S k i j v) X.K) (hW : zW X.g ad S H) (hM : zMono X.S0 S) (hE : zExt X.S0 X.ad ad) (hS : va_S (zAA X.g) X.s.heap H locs) (hL : zLR ad S ls X.nL L) (hl : zlvs S st)
    (hat : va_at X.g.1 vwCl (ad k i, zcon X.g.2.1 ad (zup S k i j v) k i) H1) (hz : H1.size = H.size) (ho : ∀ q : Nat, q ≠ ad k i → H1[q]? = H[q]?) (j9 : Nat) : zGo X H1 (locs ++ [⟨ad k i, j9⟩]) (F0 X.m (pc + 1) ls (st.map (zc ad))) := by
  have hfx : zfix k j = false := zrow_n h9
  have hcnt := zup_cnt (S := S) (i := i) (v := v) (zfix_n hfx)
  have hmono : zMono S (zup S k i j v) := ⟨Nat.le_of_eq hcnt.1.symm, Nat.le_of_eq hcnt.2.1.symm, Nat.le_of_eq hcnt.2.2.1.symm, Nat.le_of_eq hcnt.2.2.2.symm⟩
  exact hk L st (zup S k i j v) ad H1 _ ls hP (hW.put h25 hlv (zfix_n hfx) (hW.2.2.2.put hfx) hat ho) (hM.tr hmono) hE (hS.put hz ho (hW.2.2.1 k i h25 hlv)) (hL.ext hmono zExt.rf) (hl.mono hmono)
theorem z_iast_ok {pc : Nat} {kk : ZP} (C : zCx X cc own ret F Lo cx sx) (hd : decode cc pc = .ok (.iastore, 1)) (hk : ZOK X (pc + 1) kk) : ZOK X pc (z_iast kk) := by
  intro L st S ad H locs ls hP hW hM hE hS hL hl
  rcases st with _ | ⟨v | v, _ | ⟨y | y, _ | ⟨x | x | _ | ⟨a, i⟩, st⟩⟩⟩ <;> try exact False.elim hP
  have hP : (bif zrow a then vp_in y (zlen a i) ∧ kk L st (zup S a i y.toNatClampNeg v) X.K else False) := hP
  cases hq : zrow a with
  | false => rw [hq] at hP; exact False.elim hP
  | true =>
    rw [hq] at hP
    obtain ⟨hin, hP⟩ := hP
    have h9 : 9 ≤ a := by
      simp only [zrow, Bool.or_eq_true, Bool.and_eq_true, Nat.ble_eq, Nat.beq_eq] at hq
      omega
    have h1 := hW.at (zrow_lt hq) hl.2.2.1
    rw [zcon_row hq] at h1
    refine W.iast C.hx C.hb h1 ((C.hE.2.1.2 0 _ rfl).1 (zlen a i) (fun j => .int (S a i j))) (fun q => by cases q) (by show ¬ (y < 0 ∨ (arrV _ _ _).slots.size ≤ _); rw [arrV_size]; exact hin) rfl rfl hd fun H1 e z oq => ?_
    refine zast_ok h9 (zrow_lt hq) hk hl.2.2.1 hP hW hM hE hS hL hl.2.2.2 ?_ z oq y.toNatClampNeg
    rw [zcon_row hq, zup_upd]
    show H1[ad a i]? = some (vp_cell _ _)
    rw [e]
    rw [vp_cell_i, vp_cell_i, arrV_store]
    congr 2
    funext q
    by_cases hq : q = y.toNatClampNeg
    · subst hq
      simp [updV, upd]
    · simp [updV, upd, hq]
theorem z_bald_ok {pc : Nat} {kk : ZP} (C : zCx X cc own ret F Lo cx sx) (hd : decode cc pc = .ok (.baload, 1)) (hk : ZOK X (pc + 1) kk) : ZOK X pc (z_bald kk) := by
  intro L st S ad H locs ls hP hW hM hE hS hL hl
  rcases st with _ | ⟨v | v, _ | ⟨x | x | _ | ⟨a, i⟩, st⟩⟩ <;> try exact False.elim hP
  have hP2 : (bif Nat.beq a 23 then vp_in v 20 ∧ kk L (.inl (S 23 i v.toNatClampNeg) :: st) S X.K else False) := hP
  cases hq : Nat.beq a 23 with
  | false => rw [hq] at hP2; exact False.elim hP2
  | true =>
    rw [hq] at hP2
    obtain ⟨hin, hP3⟩ := hP2
    have ha : a = 23 := Nat.eq_of_beq_eq_true hq
    subst ha
    have h1 := hW.at (by decide) (show zlv S 23 i from hl.2.1)
    exact va_zald C.hx C.hb C.hE.2.1 (zP1 h1) 0 1 rfl rfl hin hd (hk L (.inl (S 23 i v.toNatClampNeg) :: st) S ad H locs ls hP3 hW hM hE hS hL ⟨trivial, hl.2.2⟩)
theorem z_bast_ok {pc : Nat} {kk : ZP} (C : zCx X cc own ret F Lo cx sx) (hd : decode cc pc = .ok (.bastore, 1)) (hk : ZOK X (pc + 1) kk) : ZOK X pc (z_bast kk) := by
  intro L st S ad H locs ls hP hW hM hE hS hL hl
  rcases st with _ | ⟨v | v, _ | ⟨y | y, _ | ⟨x | x | _ | ⟨a, i⟩, st⟩⟩⟩ <;> try exact False.elim hP
  have hP2 : (bif Nat.beq a 23 then (v = 0 ∨ v = 1) ∧ vp_in y 20 ∧ kk L st (zup S 23 i y.toNatClampNeg v) X.K else False) := hP
  cases hq : Nat.beq a 23 with
  | false => rw [hq] at hP2; exact False.elim hP2
  | true =>
    rw [hq] at hP2
    obtain ⟨h01, hin, hP3⟩ := hP2
    have ha : a = 23 := Nat.eq_of_beq_eq_true hq
    subst ha
    have h1 := hW.at (by decide) (show zlv S 23 i from hl.2.2.1)
    refine W.zast C.hx C.hb h1 ((C.hE.2.1.2 1 _ rfl).1 20 (fun j => .int (S 23 i j))) (fun q => by cases q) (by show ¬ (y < 0 ∨ (arrV _ _ _).slots.size ≤ _); rw [arrV_size]; exact hin) rfl rfl hd fun H1 e z oq => ?_
    refine zast_ok (k := 23) (i := i) (by decide) (by decide) hk (show zlv S 23 i from hl.2.2.1) hP3 hW hM hE hS hL hl.2.2.2 ?_ z oq y.toNatClampNeg
    show H1[ad 23 i]? = some (vp_cell (X.g.2.1 1) (20, .inl (zup S 23 i y.toNatClampNeg v 23 i)))
    rw [e, zup_upd]
    have hv : narrow .boolean (.int v) = .int v := by rcases h01 with rfl | rfl <;> rfl
    rw [hv]
    show some ((vp_cell (X.g.2.1 1) (20, .inl (S 23 i))).setSlot _ _) = _
    rw [vp_cell_i, vp_cell_i, arrV_store]
    congr 2
    funext q
    by_cases hq : q = y.toNatClampNeg
    · subst hq
      simp [updV, upd]
    · simp [updV, upd, hq]
-- rows of things
def ztc (k : Nat) : Nat := match k with
  | 16 => 4
  | 17 => 5
  | 18 => 2
  | 19 => 7
  | 20 => 3
  | _ => 6
theorem z_aald_ok {pc : Nat} {kk : ZP} (C : zCx X cc own ret F Lo cx sx) (hd : decode cc pc = .ok (.aaload, 1)) (hk : ZOK X (pc + 1) kk) : ZOK X pc (z_aald kk) := by
  intro L st S ad H locs ls hP hW hM hE hS hL hl
  rcases st with _ | ⟨v | v, _ | ⟨x | x | _ | ⟨a, i⟩, st⟩⟩ <;> try exact False.elim hP
  have hP : (bif Nat.ble 16 a && Nat.ble a 21 then vp_in v (zlen a i) ∧ v.toNatClampNeg < zcnt S a ∧ kk L (.inr (.inr (some (zchild a i v.toNatClampNeg))) :: st) S X.K else False) := hP
  cases hq : Nat.ble 16 a && Nat.ble a 21 with
  | false => rw [hq] at hP; exact False.elim hP
  | true =>
    rw [hq] at hP
    obtain ⟨hin, hcn, hP⟩ := hP
    have ha : a = 16 ∨ a = 17 ∨ a = 18 ∨ a = 19 ∨ a = 20 ∨ a = 21 := by
      simp only [Bool.and_eq_true, Nat.ble_eq] at hq
      omega
    have h1 := hW.at (by omega) hl.2.1
    have hk' := fun hlv => hk L (.inr (.inr (some (zchild a i v.toNatClampNeg))) :: st) S ad H locs ls hP hW hM hE hS hL ⟨hlv, hl.2.2⟩
    rcases ha with rfl | rfl | rfl | rfl | rfl | rfl
    · exact va_aldq C.hx C.hb C.hE.2.1 (zP1 h1) 0 4 rfl rfl hin hd (hk' hcn)
    · refine va_aldq C.hx C.hb C.hE.2.1 (zP1 h1) 0 5 rfl rfl hin hd ?_
      rw [if_pos (show v.toNatClampNeg < nP S from hcn)]
      exact hk' hcn
    · refine va_aldq C.hx C.hb C.hE.2.1 (zP1 h1) 0 2 rfl rfl hin hd ?_
      rw [if_pos (show v.toNatClampNeg < nD S from hcn)]
      exact hk' hcn
    · refine va_aldq C.hx C.hb C.hE.2.1 (zP1 h1) 0 7 rfl rfl hin hd ?_
      rw [if_pos (show v.toNatClampNeg < nS S from hcn)]
      exact hk' hcn
    · refine va_aldq C.hx C.hb C.hE.2.1 (zP1 h1) 0 3 rfl rfl hin hd ?_
      rw [if_pos (show v.toNatClampNeg < nF S from hcn)]
      exact hk' hcn
    · refine va_aldq C.hx C.hb C.hE.2.1 (zP1 h1) 0 6 rfl rfl hin hd (hk' ?_)
      have hi : i < nS S := hl.2.1
      have hv : v.toNatClampNeg < 6 := hcn
      show 6 * i + v.toNatClampNeg < 6 * nS S
      omega
theorem z_alen_ok {pc : Nat} {kk : ZP} (C : zCx X cc own ret F Lo cx sx) (hd : decode cc pc = .ok (.arraylength, 1)) (hk : ZOK X (pc + 1) kk) : ZOK X pc (z_alen kk) := by
  intro L st S ad H locs ls hP hW hM hE hS hL hl
  rcases st with _ | ⟨x | x | _ | ⟨a, i⟩, st⟩ <;> try exact False.elim hP
  have hP : (bif Nat.ble 9 a && Nat.ble a 23 then kk L (.inl (nI (zlen a i)) :: st) S X.K else False) := hP
  cases hq : Nat.ble 9 a && Nat.ble a 23 with
  | false => rw [hq] at hP; exact False.elim hP
  | true =>
    rw [hq] at hP
    have h1 := hW.at (by simp only [Bool.and_eq_true, Nat.ble_eq] at hq; omega) hl.1
    have hk' := hk L (.inl (nI (zlen a i)) :: st) S ad H locs ls hP hW hM hE hS hL ⟨trivial, hl.2⟩
    have ha : a = 16 ∨ a = 17 ∨ a = 18 ∨ a = 19 ∨ a = 20 ∨ a = 21 ∨ a = 23 ∨ zrow a = true := by
      simp only [zrow, Bool.or_eq_true, Bool.and_eq_true, Nat.ble_eq, Nat.beq_eq] at hq ⊢
      omega
    rcases ha with rfl | rfl | rfl | rfl | rfl | rfl | rfl | hr
    · exact va_alen C.hx C.hb C.hE.2.1 (zP1 h1) 0 4 rfl rfl rfl hd hk'
    · exact va_alen C.hx C.hb C.hE.2.1 (zP1 h1) 0 5 rfl rfl rfl hd hk'
    · exact va_alen C.hx C.hb C.hE.2.1 (zP1 h1) 0 2 rfl rfl rfl hd hk'
    · exact va_alen C.hx C.hb C.hE.2.1 (zP1 h1) 0 7 rfl rfl rfl hd hk'
    · exact va_alen C.hx C.hb C.hE.2.1 (zP1 h1) 0 3 rfl rfl rfl hd hk'
    · exact va_alen C.hx C.hb C.hE.2.1 (zP1 h1) 0 6 rfl rfl rfl hd hk'
    · exact va_alen C.hx C.hb C.hE.2.1 (zP1 h1) 0 1 rfl rfl rfl hd hk'
    · rw [zcon_row hr] at h1
      exact va_alen C.hx C.hb C.hE.2.1 (zP1 h1) 0 0 rfl rfl rfl hd hk'
theorem z_ldc_ok {pc idx : Nat} {v : Int32} {k : ZP} (C : zCx X cc own ret F Lo cx sx) (hw : Cond.constant own idx v ∈ wG) (hd : decode cc pc = .ok (.ldc idx, 2)) (hk : ZOK X (pc + 2) k) : ZOK X pc (z_push v k) := fun L st S ad H locs ls hP hW hM hE hS hL hl => lv_ldc C.hx C.hb C.hown (C.hw _ hw) hd (hk L (.inl v :: st) S ad H locs ls hP hW hM hE hS hL ⟨trivial, hl⟩)
theorem z_ldcw_ok {pc idx : Nat} {v : Int32} {k : ZP} (C : zCx X cc own ret F Lo cx sx) (hw : Cond.constant own idx v ∈ wG) (hd : decode cc pc = .ok (.ldc_w idx, 3)) (hk : ZOK X (pc + 3) k) : ZOK X pc (z_push v k) := fun L st S ad H locs ls hP hW hM hE hS hL hl => lv_ldcw C.hx C.hb C.hown (C.hw _ hw) hd (hk L (.inl v :: st) S ad H locs ls hP hW hM hE hS hL ⟨trivial, hl⟩)
theorem z_ldc2_ok {pc idx : Nat} {v : Int64} {k : ZP} (C : zCx X cc own ret F Lo cx sx) (hw : Cond.constantLong own idx v ∈ wG) (hd : decode cc pc = .ok (.ldc2_w idx, 3)) (hk : ZOK X (pc + 3) k) : ZOK X pc (z_lpush v k) := fun L st S ad H locs ls hP hW hM hE hS hL hl => lv_ldc2 C.hx C.hb C.hown (C.hw _ hw) hd (hk L (.inr (.inl v) :: st) S ad H locs ls hP hW hM hE hS hL ⟨trivial, hl⟩)
theorem zcat_le (v : Value) : v.category ≤ 2 := by rcases lv_cat v with h | h <;> omega
theorem zsum (ad : ZA) : ∀ st : List ZV, ((st.map (zc ad)).map fun v => v.category).sum ≤ 2 * st.length
  | [] => Nat.le_refl _
  | v :: st => by
    have h1 := zsum ad st
    have h2 := zcat_le (zc ad v)
    simp only [List.map_cons, List.sum_cons, List.length_cons]
    omega
def z_mm (f : Int32 → Int32 → Int32) (k : ZP) : ZP := fun L st S K => match st with
  | .inl y :: .inl x :: st => bif Nat.ble st.length 4 then k L (.inl (f x y) :: st) S K else False
  | _ => False
theorem z_min_ok {pc idx : Nat} {k : ZP} (C : zCx X cc own ret F Lo cx sx) (hF : 1 ≤ F) (hLo : 21 ≤ Lo) (h1 : Cond.methodLink own idx Lib.Math.min.name ∈ wG) (h2 : Cond.static Lib.Math.min.name ∈ wG) (h3 : Cond.initialized "java/lang/Math" ∈ wG) (h4 : Cond.code Lib.Math.min.name Lib.Math.min.code 2 (some .int) ∈ wG) (hd : decode cc pc = .ok (.invokestatic idx, 3)) (hk : ZOK X (pc + 3) k) : ZOK X pc (z_mm (fun x y => if y < x then y else x) k) := by
  intro L st S ad H locs ls hP hW hM hE hS hL hl
  rcases st with _ | ⟨y | y, _ | ⟨x | x, st⟩⟩ <;> try exact False.elim hP
  have hP : (bif Nat.ble st.length 4 then k L (.inl (if y < x then y else x) :: st) S X.K else False) := hP
  cases hq : Nat.ble st.length 4 with
  | false => rw [hq] at hP; exact False.elim hP
  | true =>
    rw [hq] at hP
    have hlen := Nat.le_of_ble_eq_true hq
    have hs := zsum ad st
    exact va_mmin C.hx C.hb (C.hml.trans hL.1.symm) C.hown (C.hw _ h1) (C.hw _ h2) (C.hw _ h3) (C.hw _ h4) (Nat.le_trans hF C.hF) (Nat.le_trans (by omega) (Nat.le_trans hLo C.hLo)) (Nat.le_trans (Nat.le_add_right _ _) C.hce) (Nat.le_trans (Nat.le_add_right _ _) C.hsl) hd (hk L (.inl (if y < x then y else x) :: st) S ad H locs ls hP hW hM hE hS hL ⟨trivial, hl.2.2⟩)
theorem z_max_ok {pc idx : Nat} {k : ZP} (C : zCx X cc own ret F Lo cx sx) (hF : 1 ≤ F) (hLo : 21 ≤ Lo) (h1 : Cond.methodLink own idx Lib.Math.max.name ∈ wG) (h2 : Cond.static Lib.Math.max.name ∈ wG) (h3 : Cond.initialized "java/lang/Math" ∈ wG) (h4 : Cond.code Lib.Math.max.name Lib.Math.max.code 2 (some .int) ∈ wG) (hd : decode cc pc = .ok (.invokestatic idx, 3)) (hk : ZOK X (pc + 3) k) : ZOK X pc (z_mm (fun x y => if x < y then y else x) k) := by
  intro L st S ad H locs ls hP hW hM hE hS hL hl
  rcases st with _ | ⟨y | y, _ | ⟨x | x, st⟩⟩ <;> try exact False.elim hP
  have hP : (bif Nat.ble st.length 4 then k L (.inl (if x < y then y else x) :: st) S X.K else False) := hP
  cases hq : Nat.ble st.length 4 with
  | false => rw [hq] at hP; exact False.elim hP
  | true =>
    rw [hq] at hP
    have hlen := Nat.le_of_ble_eq_true hq
    have hs := zsum ad st
    exact va_mmax C.hx C.hb (C.hml.trans hL.1.symm) C.hown (C.hw _ h1) (C.hw _ h2) (C.hw _ h3) (C.hw _ h4) (Nat.le_trans hF C.hF) (Nat.le_trans (by omega) (Nat.le_trans hLo C.hLo)) (Nat.le_trans (Nat.le_add_right _ _) C.hce) (Nat.le_trans (Nat.le_add_right _ _) C.hsl) hd (hk L (.inl (if x < y then y else x) :: st) S ad H locs ls hP hW hM hE hS hL ⟨trivial, hl.2.2⟩)
-- the ends
theorem zWmono {H : Heap} {locs : List Loc} {Q : State → Prop} {f : JFrame} (hQ : ∀ t, Q t → X.Q t) (h : W X.p X.l X.e X.R X.s X.m X.a X.b X.meth X.c H locs X.ce X.sl Q f) : zGo X H locs f := fun T hT Y => by
  obtain ⟨t, h1, h2⟩ := h T hT Y
  exact ⟨t, h1, hQ t h2⟩
theorem zMQ_end (t : State) (h : MQ X.b (zQc X.g X.ad X.S0 X.K) X.a X.s X.ce X.sl (zAA X.g) t) : zEnd X t := by
  obtain ⟨o, h1, h2, h3, h4⟩ := h
  exact ⟨o, h1, h2, Or.inl ⟨h3, h4⟩⟩
theorem z_iret_ok {pc : Nat} (C : zCx X cc own (some .int) F Lo cx sx) (hd : decode cc pc = .ok (.ireturn, 1)) : ZOK X pc (z_ret 1) := by
  intro L st S ad H locs ls hP hW hM hE hS hL hl
  rcases st with _ | ⟨x | x | x, _ | ⟨y, st⟩⟩ <;> try exact False.elim hP
  exact zWmono (fun t ht => C.hQ t (zMQ_end t ht)) (W.iret C.hx C.hb C.hr (fun t ht hw => ⟨some (.inl x), S, ad, rfl, hP, by rw [ht]; exact hW, hM, hE, fun v hv => by cases hv; exact ⟨trivial, trivial⟩, hS.F ht⟩) hS.2.2 hd C.hlk)
theorem z_zret_ok {pc : Nat} (C : zCx X cc own (some .boolean) F Lo cx sx) (hd : decode cc pc = .ok (.ireturn, 1)) : ZOK X pc (z_ret 2) := by
  intro L st S ad H locs ls hP hW hM hE hS hL hl
  rcases st with _ | ⟨x | x | x, _ | ⟨y, st⟩⟩ <;> try exact False.elim hP
  obtain ⟨h01, hP⟩ := (show (x = 0 ∨ x = 1) ∧ X.K (.inl (some (.inl x))) S from hP)
  exact zWmono (fun t ht => C.hQ t (zMQ_end t ht)) (W.zret C.hx C.hb C.hr (by rcases h01 with rfl | rfl <;> rfl) (fun t ht hw => ⟨some (.inl x), S, ad, rfl, hP, by rw [ht]; exact hW, hM, hE, fun v hv => by cases hv; exact ⟨trivial, trivial⟩, hS.F ht⟩) hS.2.2 hd C.hlk)
theorem z_aret_ok {pc : Nat} {n : String} (C : zCx X cc own (some (.object n)) F Lo cx sx) (hd : decode cc pc = .ok (.areturn, 1)) : ZOK X pc (z_ret 3) := by
  intro L st S ad H locs ls hP hW hM hE hS hL hl
  rcases st with _ | ⟨x | x | x, _ | ⟨y, st⟩⟩ <;> try exact False.elim hP
  exact zWmono (fun t ht => C.hQ t (zMQ_end t ht)) (W.aret (v := zc ad (.inr (.inr x))) C.hx C.hb C.hr (Or.inl ⟨n, rfl⟩) (by cases x with
    | none => exact Or.inl rfl
    | some q => exact Or.inr ⟨_, rfl⟩) (fun t ht hw => ⟨some (.inr (.inr x)), S, ad, rfl, hP, by rw [ht]; exact hW, hM, hE, fun v hv => by cases hv; exact ⟨hl.1, trivial⟩, hS.F ht⟩) hS.2.2 hd C.hlk)
theorem z_vret_ok {pc : Nat} (C : zCx X cc own none F Lo cx sx) (hd : decode cc pc = .ok (.return_, 1)) : ZOK X pc (z_ret 0) := by
  intro L st S ad H locs ls hP hW hM hE hS hL hl
  rcases st with _ | ⟨x | x | x, _ | ⟨y, st⟩⟩ <;> try exact False.elim hP
  exact zWmono (fun t ht => C.hQ t (zMQ_end t ht)) (W.vret C.hx C.hb C.hr (fun t ht hw => ⟨none, S, ad, rfl, hP, by rw [ht]; exact hW, hM, hE, fun v hv => (nomatch hv), hS.F ht⟩) hS.2.2 hd C.hlk)
end ZH
end
section
/-! switches, throws, calls, entries, loops -/
section ZI
variable {X : ZX} {cc : ByteArray} {own : String} {ret : Option FieldType} {F Lo cx sx : Nat}
def zswOK (X : ZX) (pc : Nat) (lo : Int) (offs : Array Int) : Nat → List (Int32 × ZP) → Prop
  | _, [] => True
  | j, q :: cs => (q.1.toInt = lo + j ∧ ∃ (off : Int) (t : Nat), offs[j]? = some off ∧ (pc : Int) + off = (t : Int) ∧ ZOK X t q.2) ∧ zswOK X pc lo offs (j + 1) cs
theorem zswOK_at {X : ZX} {pc : Nat} {lo : Int} {offs : Array Int} : ∀ {cs : List (Int32 × ZP)} {j0 : Nat}, zswOK X pc lo offs j0 cs → ∀ {j : Nat} {q : Int32 × ZP}, cs[j]? = some q → q.1.toInt = lo + ((j0 + j : Nat) : Int) ∧ ∃ (off : Int) (t : Nat), offs[j0 + j]? = some off ∧ (pc : Int) + off = (t : Int) ∧ ZOK X t q.2
  | [], _, _, _, _, h => by cases h
  | _ :: _, j0, h, 0, q, hq => by cases hq; exact h.1
  | _ :: cs, j0, h, j + 1, q, hq => by
    have h1 := zswOK_at (cs := cs) (j0 := j0 + 1) h.2 (j := j) (q := q) hq
    rw [show j0 + 1 + j = j0 + (j + 1) by omega] at h1
    exact h1
theorem z_sw_sp {d : ZP} {L : List (Option ZV)} {st : List ZV} {S : ZS} {K : ZK} {x : Int32} : ∀ {cs : List (Int32 × ZP)}, z_sw cs d L (.inl x :: st) S K → (∃ (j : Nat) (q : Int32 × ZP), cs[j]? = some q ∧ x = q.1 ∧ q.2 L st S K) ∨ ((∀ (j : Nat) (q : Int32 × ZP), cs[j]? = some q → ¬ x = q.1) ∧ d L st S K)
  | [], h => Or.inr ⟨fun j q h => by simp at h, h⟩
  | q :: cs, h => by
    obtain ⟨h1, h2⟩ := (show (x = q.1 → q.2 L st S K) ∧ (¬ x = q.1 → z_sw cs d L (.inl x :: st) S K) from h)
    by_cases hx : x = q.1
    · exact Or.inl ⟨0, q, rfl, hx, h1 hx⟩
    · rcases z_sw_sp (cs := cs) (h2 hx) with ⟨j, r, a, b, c⟩ | ⟨a, b⟩
      · exact Or.inl ⟨j + 1, r, a, b, c⟩
      · refine Or.inr ⟨fun j r hr => ?_, b⟩
        cases j with
        | zero => cases hr; exact hx
        | succ j => exact a j r hr
theorem z_sw_ok {pc len tgt : Nat} {dflt lo hi : Int} {offs : Array Int} {cs : List (Int32 × ZP)} {d : ZP} (hx : X.p.tables.exec = Jvm.exec) (hb : X.c.code = cc) (hd : decode cc pc = .ok (.tableswitch dflt lo hi offs, len)) (ht : (pc : Int) + dflt = (tgt : Int)) (hdk : ZOK X tgt d) (hcs : zswOK X pc lo offs 0 cs) (hhi : hi + 1 = lo + (cs.length : Int)) : ZOK X pc (z_sw cs d) := by
  intro L st S ad H locs ls hP hW hM hE hS hL hl
  rcases st with _ | ⟨x | x, st⟩
  · cases cs <;> exact False.elim hP
  · rcases z_sw_sp hP with ⟨j, q, hj, hxq, hP1⟩ | ⟨hno, hP1⟩
    · obtain ⟨h1, off, t, h2, h3, h4⟩ := zswOK_at hcs hj
      rw [Nat.zero_add] at h1 h2
      have hjl : j < cs.length := (List.getElem?_eq_some_iff.mp hj).1
      have hxi : x.toInt = lo + (j : Int) := by rw [hxq]; exact h1
      exact lv_tableIn hx hb hd (by omega) (by omega) (by rw [show (x.toInt - lo).toNat = j by omega]; exact h2) h3 (h4 L st S ad H locs ls hP1 hW hM hE hS hL hl.2)
    · refine lv_tableOut hx hb hd ?_ ht (hdk L st S ad H locs ls hP1 hW hM hE hS hL hl.2)
      by_cases h1 : x.toInt < lo
      · exact Or.inl h1
      · by_cases h2 : hi < x.toInt
        · exact Or.inr h2
        · have hjl : (x.toInt - lo).toNat < cs.length := by omega
          obtain ⟨q, hq⟩ : ∃ q, cs[(x.toInt - lo).toNat]? = some q := ⟨_, List.getElem?_eq_getElem hjl⟩
          obtain ⟨h3, -⟩ := zswOK_at hcs hq
          rw [Nat.zero_add] at h3
          exact absurd (Int32.toInt_inj.mp (by omega)) (hno _ q hq)
  · cases cs <;> exact False.elim hP
theorem zW.kept {g : ZG} {ad : ZA} {S : ZS} {H H1 : Heap} (h : zW g ad S H) (hq : ∀ q : Nat, q < H.size → H1[q]? = H[q]?) : zW g ad S H1 :=
  ⟨fun k i hk hl => (h.1 k i hk hl).kept (hq _ (h.1 k i hk hl).lt), h.2.1, h.2.2.1, h.2.2.2⟩
theorem zMQ_thr {A0 : Nat → Prop} (t : State) (h : vx_MQ X.b (fun _ _ _ _ => False) (zXC X.g X.ad X.S0 X.K) X.a X.s (X.ce + 1) (X.sl + 6) (zAA X.g) t) : zEnd X t := by
  obtain ⟨o, h1, h2, ⟨h3, -⟩ | h3⟩ := h
  · exact h3.elim
  · exact ⟨o, h1, h2, Or.inr h3⟩
abbrev znames : List String := ["java/lang/RuntimeException", "java/lang/Exception"]
/-- what a throw of kind n, its constructor at ic, wants of the tables -/
def zthr (own : String) (ik ic n : Nat) : Prop := (1 ≤ n ∧ n ≤ 3) ∧ Bundle.fit (zen n) = true ∧ Cond.classLink own ik (zen n) ∈ wG ∧ Cond.initialized (zen n) ∈ wG ∧ (∀ w ∈ vx_atS own ic (zen n) znames, w ∈ wG ∨ w ∈ zxw) ∧ (∀ w ∈ Cond.classLink own ik (zen n) :: Cond.initialized (zen n) :: vx_atS own ic (zen n) znames, vx_ot w = true)
theorem zn_fit : ∀ n ∈ znames, Bundle.fit n = true := by decide +kernel
theorem zthr_x {n : Nat} {S : ZS} {ad : ZA} {H : Heap} {locs : List Loc} (hn : 1 ≤ n ∧ n ≤ 3) (hP : X.K (.inr n) S) (hW : zW X.g ad S H) (hM : zMono X.S0 S) (hE : zExt X.S0 X.ad ad) (hS : va_S (zAA X.g) X.s.heap H locs) :
    ∀ t : State, X.s.vm.Alike t.vm → H.size ≤ t.heap.size → (∀ q : Nat, q < H.size → t.heap[q]? = H[q]?) → zXC X.g X.ad X.S0 X.K (zen n) X.s t := fun t _ hz hq =>
  ⟨n, S, ad, rfl, hn.1, hn.2, hP, hW.kept hq, hM, hE, Nat.le_trans hS.1 hz, fun q h1 h2 => (hq q (Nat.lt_of_lt_of_le h1 hS.1)).trans (hS.2.1 q h1 h2)⟩
theorem zxw_tab : ∀ w ∈ zxw, w.onTables = true := by decide +kernel
theorem zthr_w {ik ic n : Nat} (C : zCx X cc own ret F Lo cx sx) (h3 : ∀ w ∈ vx_atS own ic (zen n) znames, w ∈ wG ∨ w ∈ zxw) (_ : ∀ w ∈ Cond.classLink own ik (zen n) :: Cond.initialized (zen n) :: vx_atS own ic (zen n) znames, vx_ot w = true) : ∀ w ∈ vx_atS own ic (zen n) znames, w.before X.a X.s = true := fun w hw =>
  (h3 w hw).elim (fun h => C.hw _ h) (fun h => va_Nw.use (zxw_tab w h) (C.hE.2.2.2.2.2.1 w h))
theorem z_throwS_ok {pc ik is ic n : Nat} {text : String} (C : zCx X cc own ret F Lo cx sx) (h : zthr own ik ic n) (hs : (own, is, text) ∈ zstr)
    (d0 : decode cc pc = .ok (.new ik, 3)) (d3 : decode cc (pc + 3) = .ok (.dup, 1)) (d4 : decode cc (pc + 4) = .ok (.ldc is, 2)) (d6 : decode cc (pc + 6) = .ok (.invokespecial ic, 3)) (d9 : decode cc (pc + 9) = .ok (.athrow, 1))
    (ho : own ≠ "PointsbookLaw") (hF : 6 ≤ F) (hLo : 90 ≤ Lo) (hcx : 1 ≤ cx) (hsx : 6 ≤ sx) : ZOK X pc (z_throw n) := by
  intro L st S ad H locs ls hP hW hM hE hS hL hl
  have hP2 : (bif Nat.ble st.length 4 then X.K (.inr n) S else False) := hP
  cases hq : Nat.ble st.length 4 with
  | false => rw [hq] at hP2; exact False.elim hP2
  | true =>
    rw [hq] at hP2
    have hlen := Nat.le_of_ble_eq_true hq
    have hsm := zsum ad st
    obtain ⟨hn, hfit, h1, h2, h3, h4⟩ := h
    obtain ⟨sa, hsa⟩ := C.hE.2.2.2.2.1 _ hs
    have hRl := C.hLo
    have hRf := C.hF
    exact zWmono (fun t ht => C.hQ t (zMQ_thr (A0 := zAA X.g) t ht)) (vx_throwS (cls := zen n) (names := znames) C.hx C.hb C.htr C.hown hfit zn_fit (C.hw _ h1) (C.hw _ h2) hsa (fun w hw => zthr_w C h3 h4 w hw) h4 C.hE.2.2.1 C.hE.2.2.2.1 hS (hL.1.trans C.hml.symm) d0 d3 d4 d6 d9 (fun x hx => (C.hnh ho x hx).elim)
      (show 2 + 3 < X.R.frames by omega) (show _ + (13 * (2 + 1) + 43) ≤ X.R.locals by omega) (Nat.le_trans (Nat.add_le_add_left hcx _) C.hce) (Nat.le_trans (Nat.add_le_add_left hsx _) C.hsl) C.hlk (zthr_x hn hP2 hW hM hE hS) hS.2.2 (Nat.le_refl _) (Nat.le_refl _))
theorem z_throwSW_ok {pc ik is ic n : Nat} {text : String} (C : zCx X cc own ret F Lo cx sx) (h : zthr own ik ic n) (hs : (own, is, text) ∈ zstr)
    (d0 : decode cc pc = .ok (.new ik, 3)) (d3 : decode cc (pc + 3) = .ok (.dup, 1)) (d4 : decode cc (pc + 4) = .ok (.ldc_w is, 3)) (d7 : decode cc (pc + 7) = .ok (.invokespecial ic, 3)) (d10 : decode cc (pc + 10) = .ok (.athrow, 1))
    (ho : own ≠ "PointsbookLaw") (hF : 6 ≤ F) (hLo : 90 ≤ Lo) (hcx : 1 ≤ cx) (hsx : 6 ≤ sx) : ZOK X pc (z_throw n) := by
  intro L st S ad H locs ls hP hW hM hE hS hL hl
  have hP2 : (bif Nat.ble st.length 4 then X.K (.inr n) S else False) := hP
  cases hq : Nat.ble st.length 4 with
  | false => rw [hq] at hP2; exact False.elim hP2
  | true =>
    rw [hq] at hP2
    have hlen := Nat.le_of_ble_eq_true hq
    have hsm := zsum ad st
    obtain ⟨hn, hfit, h1, h2, h3, h4⟩ := h
    obtain ⟨sa, hsa⟩ := C.hE.2.2.2.2.1 _ hs
    have hRl := C.hLo
    have hRf := C.hF
    exact zWmono (fun t ht => C.hQ t (zMQ_thr (A0 := zAA X.g) t ht)) (vx_throwSW (cls := zen n) (names := znames) C.hx C.hb C.htr C.hown hfit zn_fit (C.hw _ h1) (C.hw _ h2) hsa (fun w hw => zthr_w C h3 h4 w hw) h4 C.hE.2.2.1 C.hE.2.2.2.1 hS (hL.1.trans C.hml.symm) d0 d3 d4 d7 d10 (fun x hx => (C.hnh ho x hx).elim)
      (show 2 + 3 < X.R.frames by omega) (show _ + (13 * (2 + 1) + 43) ≤ X.R.locals by omega) (Nat.le_trans (Nat.add_le_add_left hcx _) C.hce) (Nat.le_trans (Nat.add_le_add_left hsx _) C.hsl) C.hlk (zthr_x hn hP2 hW hM hE hS) hS.2.2 (Nat.le_refl _) (Nat.le_refl _))
end ZI
-- contracts
def zPc (g : ZG) (ad : ZA) (S : ZS) (as : List ZV) : Array Value → State → Prop := fun v U => v = (as.map (zc ad)).toArray ∧ zE g U ∧ zW g ad S U.heap ∧ zlvs S as ∧ ∀ x ∈ as, zc1 x
def zMet (l : Launch) (y : MethodName) (bytes : ByteArray) (maxL : Nat) (ret : Option FieldType) (rm : Room) (mc ms : Nat) (sp : ZSp) : Prop :=
  ∀ (g : ZG) (ad : ZA) (S : ZS) (K : ZK) (as : List ZV), sp as S K → MetFree l y (headSpec (Cond.code y bytes maxL ret :: wG) rm) (zPc g ad S as) (fun _ _ _ _ _ => True) (zQm (zQc g ad S K) (zXC g ad S K) mc ms (mc + 1) (ms + 6) (zAA g))
theorem zE.calling {g : ZG} {U : State} {f : JFrame} {mk : MethodId} {a : Array Value} (h : zE g U) : zE g (U.calling f mk a) := zE.moved (U := U.calling f mk a) h (State.WarmedH.refl U) (Nat.le_refl _) (fun _ _ _ => rfl)
theorem zPc_blind (g : ZG) (ad : ZA) (S : ZS) (as : List ZV) : FrameBlind (zPc g ad S as) := fun _ _ _ _ q => ⟨q.1, q.2.1.calling, q.2.2⟩
section Payer2
variable {l : Launch} {R : Room} {p : Program} {e : Env} {below : List Frame} {s : State} {sargs : Array Value} {y : MethodName} {len W9 : Nat}
/-- follows vx_back, with a cost of its own for a throw -/
theorem z_back {ws : List Cond} {rm : Room} {Pc : Array Value → State → Prop} {Qc : Array Value → State → Outcome → State → Prop} {XC : String → State → State → Prop} {mc ms mx my : Nat} {free : Addr → Prop} {bytes : ByteArray} {maxL : Nat} {ret : Option FieldType}
    (hM : MetFree l y (headSpec ws rm) Pc (fun _ _ _ _ _ => True) (zQm Qc XC mc ms mx my free)) (hblind : FrameBlind Pc) (hrc : rm.cells = mx) (hrs : rm.slots = my)
    (hframes : rm.frames + 1 ≤ R.frames) (hlocals : W9 + (maxL + 11) + rm.locals ≤ R.locals)
    (hws : ∀ w ∈ ws, ∀ a' U, s.WarmedH U.vm → w.before a' U = true) (hcode : Cond.code y bytes maxL ret ∈ ws) (hinit : ∀ a' U, s.WarmedH U.vm → (Cond.initialized y.cls).before a' U = true) :
    vx_Back l R p e below s sargs y len W9 (PreOf R mx my Pc) (PostOf Qc mc ms free) (vx_Post XC mx my free) := by
  intro m meth c A g ig mk a X hg hsize hdg hW hn hp
  have h1 : (headSpec ws rm).pre.before a A.U = true := atoms_intro fun w hw => hws w hw _ _ X.warmed
  have h2 : (Cond.code y bytes maxL ret).before a A.U = true := hws _ hcode _ _ X.warmed
  have h3 : (Cond.initialized y.cls).before a A.U = true := hinit _ _ X.warmed
  have h4 : A.cells + (headSpec ws rm).room.cells ≤ R.cells := by rw [show (headSpec ws rm).room.cells = mx from hrc]; exact hp.1
  have h5 : A.slots + (headSpec ws rm).room.slots ≤ R.slots := by rw [show (headSpec ws rm).room.slots = my from hrs]; exact hp.2.1
  have hPc : Pc a (A.U.calling g mk a) := hblind _ _ _ _ hp.2.2
  obtain ⟨U, Ls, c0, s0⟩ := A
  dsimp only [Pt.U, Pt.locs, Pt.cells, Pt.slots] at h1 h2 h3 h4 h5 X hn hPc ⊢
  obtain ⟨methY, cY, hmY, hcY, -, hlY, -, -, -, -⟩ := Cond.code_spec hn h2
  obtain ⟨kY, hkY, -⟩ := className_of_methodNamed hn
  have hinitY : kY.init = .initialized := Cond.initialized_spec (findClass_of_methodNamed hn) hkY h3
  have h : At U g.method c below := by rw [hg]; exact X.here
  have hlocals9 : W9 + (maxL + 11) + (headSpec ws rm).room.locals ≤ R.locals := hlocals
  have happ : (headSpec ws rm).appliesLoose y e.platform (U.calling g mk a) = true :=
    Spec.appliesLoose_calling (g := g) h hdg hn hkY hinitY
      (X.room_calling (g := g) (R' := (headSpec ws rm).room) hsize hmY hcY hframes (by rw [hlY]; omega) h4 h5) h1
  obtain ⟨mid, hmid⟩ := h.above
  have hfr : (U.setTop g).frames = (.java g :: mid) ++ below := by rw [State.frames_setTop' g h.top, hmid]; rfl
  obtain ⟨o, s₂, hsteps, -, hend, hq⟩ := Steps.callFree hM p X.admits X.cas X.clock (acts := []) hfr happ hPc trivial
  have hq' : zQm Qc XC mc ms mx my free a (U.calling g mk a) o s₂ := hq
  rw [State.frames_setTop' g h.top] at hend
  obtain ⟨g₀, hg0⟩ := Option.isSome_iff_exists.mp h.top
  obtain ⟨r, hr⟩ := State.topJava?_eq_some.mp hg0
  have hr' : (({ U with heap := s₂.heap, slotsUsed := s₂.slotsUsed } : State).setVm s₂.vm).frames = .java g₀ :: r := hr
  rcases hq' with ⟨hqc, L, hfe, hL⟩ | ⟨q, rfl, E, ce, L, hx, hce, hcv, hcl, hW₂, hsm, hL⟩
  · obtain ⟨⟨v, rfl⟩, hW₂, e2, q2, q3, q4, q5, q6⟩ := id hfe
    have e3 : s₂ = ({ (U.calling g mk a).setFrames s₂.frames with heap := s₂.heap, slotsUsed := s₂.slotsUsed } : State).setVm s₂.vm := by
      have : s₂ = ({ s₂ with vm := (U.calling g mk a).vm } : State).setVm s₂.vm := rfl
      rw [e2] at this
      exact this
    obtain ⟨c₂, i₂, len₂, hc₂, hd₂, hf₂⟩ := hend
    have hW' : U.WarmedH s₂.vm := hW₂
    have hcc : c₂ = c := by
      have h1 : s₂.code? g.method = U.code? g.method := by
        rw [State.code?_eq, State.code?_eq, hW'.alike.method?]
      exact Option.some.inj (hc₂.symm.trans (h1.trans h.code))
    subst hcc
    have hlen : len₂ = len := by rw [hdg] at hd₂; cases hd₂; rfl
    subst hlen
    have hs₂ : s₂ = (({ U with heap := s₂.heap, slotsUsed := s₂.slotsUsed } : State).setVm s₂.vm).setTop { g with pc := g.pc + len₂, stack := v.toList ++ g.stack } := by
      refine e3.trans ?_
      rw [hf₂, State.calling_eq h.top, State.setFrames_setFrames, State.setTop_of_frames _ hr', hr]
      rfl
    have hsame : U.sameButNew ({ U with heap := s₂.heap, slotsUsed := s₂.slotsUsed } : State) L mc ms := by
      refine ⟨?_, q2, q3, q4, q5, q6⟩
      obtain ⟨t, ht, -⟩ := State.frames_cons hr
      show ({ U with heap := s₂.heap, slotsUsed := s₂.slotsUsed } : State) = { U.setFrames U.frames with heap := s₂.heap, slotsUsed := s₂.slotsUsed }
      rw [State.setFrames_self ht]
    subst hg
    refine Or.inl ⟨v, ⟨(({ U with heap := s₂.heap, slotsUsed := s₂.slotsUsed } : State).setVm s₂.vm), Ls ++ L, c0 + mc, s0 + ms⟩,
      ⟨X.admits, X.cas, X.clock, X.frames, X.room, X.hears, X.method, X.code, (X.here.setHeapUsed s₂.heap s₂.slotsUsed).setVm hW'.alike, X.tail, State.WarmedH.trans X.warmed hW', X.limits, X.bytes, X.same.trans (hsame.setVm s.vm)⟩,
      ⟨g, mk, s₂, L, rfl, rfl, hqc, rfl, hL, rfl, rfl⟩, ?_⟩
    show Steps p.tables e below _ ((({ U with heap := s₂.heap, slotsUsed := s₂.slotsUsed } : State).setVm s₂.vm).setTop { g with pc := g.pc + len₂, stack := v.toList ++ g.stack })
    rw [← hs₂]
    exact hsteps
  · obtain ⟨e2, q2, q3, q4, q5, q6⟩ := id hsm
    have e3 : s₂ = ({ (U.calling g mk a).setFrames s₂.frames with heap := s₂.heap, slotsUsed := s₂.slotsUsed } : State).setVm s₂.vm := by
      have : s₂ = ({ s₂ with vm := (U.calling g mk a).vm } : State).setVm s₂.vm := rfl
      rw [e2] at this
      exact this
    have hf₂ : s₂.frames = .throwing q :: .java g :: U.frames.tail := hend
    have hW' : U.WarmedH s₂.vm := hW₂
    have hs₂ : s₂ = ((({ U with heap := s₂.heap, slotsUsed := s₂.slotsUsed } : State).setVm s₂.vm).setTop g).pushFrame (.throwing q) := by
      refine e3.trans ?_
      rw [hf₂, State.calling_eq h.top, State.setFrames_setFrames, State.pushFrame, State.frames_setTop _ hr', State.setTop_of_frames _ hr', State.setFrames_setFrames, hr]
      rfl
    have hsame : U.sameButNew ({ U with heap := s₂.heap, slotsUsed := s₂.slotsUsed } : State) L mx my := by
      refine ⟨?_, q2, q3, q4, q5, q6⟩
      obtain ⟨t, ht, -⟩ := State.frames_cons hr
      show ({ U with heap := s₂.heap, slotsUsed := s₂.slotsUsed } : State) = { U.setFrames U.frames with heap := s₂.heap, slotsUsed := s₂.slotsUsed }
      rw [State.setFrames_self ht]
    subst hg
    refine Or.inr ⟨q, ⟨(({ U with heap := s₂.heap, slotsUsed := s₂.slotsUsed } : State).setVm s₂.vm), Ls ++ L, c0 + mx, s0 + my⟩,
      ⟨X.admits, X.cas, X.clock, X.frames, X.room, X.hears, X.method, X.code, (X.here.setHeapUsed s₂.heap s₂.slotsUsed).setVm hW'.alike, X.tail, State.WarmedH.trans X.warmed hW', X.limits, X.bytes, X.same.trans (hsame.setVm s.vm)⟩,
      ⟨g, mk, s₂, L, E, ce, rfl, rfl, hx, hce, hcv, hcl, rfl, hL, rfl, rfl⟩, ?_⟩
    show Steps p.tables e below _ (((({ U with heap := s₂.heap, slotsUsed := s₂.slotsUsed } : State).setVm s₂.vm).setTop g).pushFrame (.throwing q))
    rw [← hs₂]
    exact hsteps
end Payer2
theorem ztake_sp : ∀ {n : Nat} {st acc as st' : List ZV}, ztake n st acc = some (as, st') → as.reverse ++ st' = acc.reverse ++ st ∧ as.length = n + acc.length
  | 0, st, acc, as, st', h => by cases h; exact ⟨rfl, (Nat.zero_add _).symm⟩
  | n + 1, [], acc, as, st', h => by cases h
  | n + 1, v :: st, acc, as, st', h => by
    obtain ⟨h1, h2⟩ := ztake_sp (n := n) (st := st) (acc := v :: acc) h
    refine ⟨by rw [h1]; simp, by rw [h2, List.length_cons]; omega⟩
theorem zlvs_iff {S : ZS} : ∀ {st : List ZV}, zlvs S st ↔ ∀ v ∈ st, zlvv S v
  | [] => ⟨fun _ _ h => (nomatch h), fun _ => trivial⟩
  | v :: st => by
    rw [List.forall_mem_cons]
    exact and_congr Iff.rfl zlvs_iff
theorem zc1_of {as : List ZV} (h : as.all zc1b = true) : ∀ x ∈ as, zc1 x := fun x hx => by
  have h1 := List.all_eq_true.mp h x hx
  rcases x with x | x | _ | q
  · trivial
  · cases h1
  · trivial
  · trivial
end
section
section ZJ
variable {X : ZX} {cc : ByteArray} {own : String} {ret : Option FieldType} {F Lo cx sx : Nat}
/-- behind a call: it has returned, or thrown -/
def zRun (X : ZX) (g : ZG) (ad : ZA) (S : ZS) (K : ZK) (mc ms : Nat) (H : Heap) (locs : List Loc) (f : JFrame) (rest : List Value) (a : Array Value) : Prop :=
  ∀ T : State, T.heap = H → Stand X.p X.l X.e X.R X.s X.m X.a X.b X.meth X.c T locs X.ce X.sl →
    (∃ (v : Option Value) (st₀ t T' : State) (L : List Loc), st₀.heap = H ∧ Stand X.p X.l X.e X.R X.s X.m X.a X.b X.meth X.c T' (locs ++ L) (X.ce + mc) (X.sl + ms) ∧ (∀ q ∈ L, zAA g q.base) ∧ T'.heap = t.heap ∧ T'.vm = t.vm ∧ zQc g ad S K a st₀ (.returned v) t ∧
      Goes X.p X.e X.b T f T' { f with pc := f.pc + 3, stack := v.toList ++ rest }) ∨
    (∃ (q : Addr) (st₀ t T' : State) (L : List Loc) (E : String) (ce : Cell), st₀.heap = H ∧ Stand X.p X.l X.e X.R X.s X.m X.a X.b X.meth X.c T' (locs ++ L) (X.ce + (mc + 1)) (X.sl + (ms + 6)) ∧ (∀ z ∈ L, zAA g z.base) ∧ T'.heap = t.heap ∧ T'.vm = t.vm ∧ zXC g ad S K E st₀ t ∧ t.heap[q]? = some ce ∧ ce.vm = .none ∧ X.s.vm.findClass E = some ce.cls ∧
      Steps X.p.tables X.e X.b (T.setTop f) ((T'.setTop { f with stack := rest }).pushFrame (.throwing q)))
/-- the words of a call -/
def zcall (own : String) (index : Nat) (y : MethodName) (bytes : ByteArray) (maxL : Nat) (ret : Option FieldType) (n : Nat) : Prop :=
  Cond.methodLink own index y ∈ wG ∧ Cond.code y bytes maxL ret ∈ wG ∧ Cond.initialized y.cls ∈ wG ∧ (y.cls ≠ "java/lang/invoke/MethodHandle" ∧ y.cls ≠ "java/lang/invoke/VarHandle") ∧ (parseMethodDescriptor y.desc).map (fun d => d.parameters.length) = some n
theorem wG_good {w : Cond} (h : w ∈ wG) : (w.onTables && w.keeps) = true ∨ ∃ ty, w = .arrayClass ty := good_of_word (List.mem_filter.mp h).2
theorem zcall_ws {y : MethodName} {bytes : ByteArray} {maxL : Nat} {rt : Option FieldType} (hw : ∀ w ∈ wG, w.before X.a X.s = true) (hc : Cond.code y bytes maxL rt ∈ wG) : ∀ w ∈ (Cond.code y bytes maxL rt :: wG), ∀ (a' : Array Value) (U : State), X.s.WarmedH U.vm → w.before a' U = true := fun w h a' U hW => by
  rcases List.mem_cons.mp h with rfl | h
  · exact word_at hW (wG_good hc) (hw _ hc)
  · exact word_at hW (wG_good h) (hw _ h)
theorem zPc_at {S : ZS} {ad : ZA} {H : Heap} {locs : List Loc} {as : List ZV} (hE : zE X.g X.s) (hW : zW X.g ad S H) (hS : va_S (zAA X.g) X.s.heap H locs) (hl : zlvs S as) (h1 : ∀ x ∈ as, zc1 x) : ∀ U : State, U.heap = H → X.s.WarmedH U.vm → zPc X.g ad S as (as.map (zc ad)).toArray U := fun U hU hW9 =>
  ⟨rfl, hE.moved hW9 (by rw [hU]; exact hS.1) (fun q h1 h2 => by rw [hU]; exact hS.2.1 q h1 h2), by rw [hU]; exact hW, hl, h1⟩
theorem z_runV {index n : Nat} {y : MethodName} {bytes : ByteArray} {maxL : Nat} {rt : Option FieldType} {rm : Room} {mc ms pc k i : Nat} {Cn : String} {T : u_T} {N : Nat} {ty : Nat → FieldType} {sp : ZSp} {K : ZK} {S : ZS} {ad : ZA} {H : Heap} {locs : List Loc} {ls : Array Slot} {as : List ZV} {rest : List Value} (C : zCx X cc own ret F Lo cx sx) (hM : zMet X.l y bytes maxL rt rm mc ms sp) (hrm : rm.cells = mc + 1 ∧ rm.slots = ms + 6) (hR : rm.frames + 1 ≤ F ∧ 8 + (maxL + 11) + rm.locals ≤ Lo) (hcx : mc + 1 ≤ cx) (hsx : ms + 6 ≤ sx)
    (hw : zcall own index y bytes maxL rt n) (hinst : Cond.instanceMethod y ∈ wG) (hsel : Cond.selects Cn y y ∈ wG) (hK : zKl k Cn T N ty) (hlv : zlv S k i)
    (hsp : sp (zr k i :: as) S K) (hW : zW X.g ad S H) (hS : va_S (zAA X.g) X.s.heap H locs) (hl : zlvs S as) (h1 : ∀ x ∈ as, zc1 x) (hn : as.length = n) (hsz : ls.size = X.nL) (hcat : (rest.map fun v => v.category).sum ≤ 8) (hd : decode cc pc = .ok (.invokevirtual index, 3)) :
    zRun X X.g ad S K mc ms H locs (F0 X.m pc ls ((as.map (zc ad)).reverse ++ .ref (ad k i) :: rest)) rest (((zr k i :: as).map (zc ad)).toArray) := by
  obtain ⟨w1, w2, w3, w4, w5⟩ := hw
  have hB : vx_Back X.l X.R X.p X.e X.b X.s X.a y 3 8 (PreOf X.R (mc + 1) (ms + 6) (zPc X.g ad S (zr k i :: as))) (PostOf (zQc X.g ad S K) mc ms (zAA X.g)) (vx_Post (zXC X.g ad S K) (mc + 1) (ms + 6) (zAA X.g)) :=
    z_back (bytes := bytes) (maxL := maxL) (ret := rt) (hM X.g ad S K _ hsp) (zPc_blind _ _ _ _) hrm.1 hrm.2 (Nat.le_trans hR.1 C.hF) (Nat.le_trans hR.2 C.hLo) (zcall_ws C.hw w2) List.mem_cons_self (fun a' U hW9 => word_at hW9 (wG_good w3) (C.hw _ w3))
  have hPc := zPc_at (as := zr k i :: as) C.hE hW hS ⟨hlv, hl⟩ (List.forall_mem_cons.mpr ⟨trivial, h1⟩)
  obtain ⟨hk1, hk2, hk3, hk4, hk5, hk6⟩ := hK
  obtain ⟨cellB, hcB, hoB, hclB⟩ := va_recv C.hE.2.1 (zP1 (hW.ob hlv hk6)) hk1 (q0 := 0) rfl
  have hlen : (as.map (zc ad)).length = n := (List.length_map _).trans hn
  intro T9 hT Y
  rcases vx_callV Y C.hx (C := Cn) (bytes := bytes) (maxL := maxL) (ret := rt) C.hown (C.hw _ w1) (C.hw _ hinst) (C.hw _ hsel) (C.hw _ w2) w4 hB (by rw [hT]; exact hcB) hoB hclB rfl (hsz.trans C.hml.symm) (argsL := as.map (zc ad)) (rest := rest) (fun sig h => by rw [h] at w5; exact hlen.trans (Option.some.inj w5).symm) rfl (lv_room hcat) (by rw [C.hb]; exact hd)
    (fun vm₁ hW₁ => ⟨Nat.le_trans (Nat.add_le_add_left hcx _) C.hce, Nat.le_trans (Nat.add_le_add_left hsx _) C.hsl, hPc (T9.setVm vm₁) hT hW₁⟩) with ⟨v, vm₁, ⟨U', l2, c2, s2⟩, hW₁, X', ⟨g', mk, t, L, e1, e2, hq, h1, hL, h2, h3⟩, st⟩ | ⟨q, vm₁, ⟨U', l2, c2, s2⟩, hW₁, X', ⟨g', mk, t, L, E, ce, e1, e2, hq, hce, hcv, hcl, h1, hL, h2, h3⟩, st⟩
  · dsimp only [Pt.U, Pt.locs, Pt.cells, Pt.slots] at X' e1 e2 h1 h2 h3 st
    subst h1; subst h2; subst h3
    exact Or.inl ⟨v, (T9.setVm vm₁).calling g' mk _, t, U', L, hT, X', hL, e1, e2, hq, st⟩
  · dsimp only [Pt.U, Pt.locs, Pt.cells, Pt.slots] at X' e1 e2 h1 h2 h3 st hcl
    subst h1; subst h2; subst h3
    exact Or.inr ⟨q, (T9.setVm vm₁).calling g' mk _, t, U', L, E, ce, hT, X', hL, e1, e2, hq, hce, hcv, vx_cls hW₁ hcl, st⟩
theorem z_runS {index n : Nat} {y : MethodName} {bytes : ByteArray} {maxL : Nat} {rt : Option FieldType} {rm : Room} {mc ms pc : Nat} {sp : ZSp} {K : ZK} {S : ZS} {ad : ZA} {H : Heap} {locs : List Loc} {ls : Array Slot} {as : List ZV} {rest : List Value} (C : zCx X cc own ret F Lo cx sx) (hM : zMet X.l y bytes maxL rt rm mc ms sp) (hrm : rm.cells = mc + 1 ∧ rm.slots = ms + 6) (hR : rm.frames + 1 ≤ F ∧ 8 + (maxL + 11) + rm.locals ≤ Lo) (hcx : mc + 1 ≤ cx) (hsx : ms + 6 ≤ sx)
    (hw : zcall own index y bytes maxL rt n) (hst : Cond.static y ∈ wG)
    (hsp : sp as S K) (hW : zW X.g ad S H) (hS : va_S (zAA X.g) X.s.heap H locs) (hl : zlvs S as) (h1 : ∀ x ∈ as, zc1 x) (hn : as.length = n) (hsz : ls.size = X.nL) (hcat : (rest.map fun v => v.category).sum ≤ 8) (hd : decode cc pc = .ok (.invokestatic index, 3)) :
    zRun X X.g ad S K mc ms H locs (F0 X.m pc ls ((as.map (zc ad)).reverse ++ rest)) rest ((as.map (zc ad)).toArray) := by
  obtain ⟨w1, w2, w3, w4, w5⟩ := hw
  have hB : vx_Back X.l X.R X.p X.e X.b X.s X.a y 3 8 (PreOf X.R (mc + 1) (ms + 6) (zPc X.g ad S as)) (PostOf (zQc X.g ad S K) mc ms (zAA X.g)) (vx_Post (zXC X.g ad S K) (mc + 1) (ms + 6) (zAA X.g)) :=
    z_back (bytes := bytes) (maxL := maxL) (ret := rt) (hM X.g ad S K _ hsp) (zPc_blind _ _ _ _) hrm.1 hrm.2 (Nat.le_trans hR.1 C.hF) (Nat.le_trans hR.2 C.hLo) (zcall_ws C.hw w2) List.mem_cons_self (fun a' U hW9 => word_at hW9 (wG_good w3) (C.hw _ w3))
  have hPc := zPc_at (as := as) C.hE hW hS hl h1
  have hlen : (as.map (zc ad)).length = n := (List.length_map _).trans hn
  intro T9 hT Y
  rcases vx_callS Y C.hx (bytes := bytes) (maxL := maxL) (ret := rt) C.hown (C.hw _ w1) (C.hw _ hst) (C.hw _ w3) (C.hw _ w2) w4 hB rfl (hsz.trans C.hml.symm) (argsL := as.map (zc ad)) (rest := rest) (fun sig h => by rw [h] at w5; exact hlen.trans (Option.some.inj w5).symm) rfl (lv_room hcat) (by rw [C.hb]; exact hd)
    (fun vm₁ hW₁ => ⟨Nat.le_trans (Nat.add_le_add_left hcx _) C.hce, Nat.le_trans (Nat.add_le_add_left hsx _) C.hsl, hPc (T9.setVm vm₁) hT hW₁⟩) with ⟨v, vm₁, ⟨U', l2, c2, s2⟩, hW₁, X', ⟨g', mk, t, L, e1, e2, hq, h1, hL, h2, h3⟩, st⟩ | ⟨q, vm₁, ⟨U', l2, c2, s2⟩, hW₁, X', ⟨g', mk, t, L, E, ce, e1, e2, hq, hce, hcv, hcl, h1, hL, h2, h3⟩, st⟩
  · dsimp only [Pt.U, Pt.locs, Pt.cells, Pt.slots] at X' e1 e2 h1 h2 h3 st
    subst h1; subst h2; subst h3
    exact Or.inl ⟨v, (T9.setVm vm₁).calling g' mk _, t, U', L, hT, X', hL, e1, e2, hq, st⟩
  · dsimp only [Pt.U, Pt.locs, Pt.cells, Pt.slots] at X' e1 e2 h1 h2 h3 st hcl
    subst h1; subst h2; subst h3
    exact Or.inr ⟨q, (T9.setVm vm₁).calling g' mk _, t, U', L, E, ce, hT, X', hL, e1, e2, hq, hce, hcv, vx_cls hW₁ hcl, st⟩
theorem zS_after {g : ZG} {S S0 : ZS} {st₀ t T' : State} {L locs : List Loc} {H : Heap} {H0 : Heap} (h0 : st₀.heap = H) (e1 : T'.heap = t.heap) (hS : va_S (zAA g) H0 H locs) (hL : ∀ q ∈ L, zAA g q.base) (hF : va_F (zAA g) st₀ t) : va_S (zAA g) H0 T'.heap (locs ++ L) :=
  (vx_keep h0 e1 hS (fun _ _ h => h) (fun _ h => h) hL hF).2.2
/-- the walk goes on behind a call that made nothing -/
theorem z_after {pc : Nat} {S : ZS} {ad : ZA} {H : Heap} {locs : List Loc} {ls : Array Slot} {a : Array Value} {L : List (Option ZV)} {st : List ZV} {stk : List Value} {kk : ZP} (C : zCx X cc own ret F Lo cx sx) (ho : own ≠ "PointsbookLaw")
    (hr : zRun X X.g ad S (zcont kk L st X.K) 0 0 H locs (F0 X.m pc ls stk) (st.map (zc ad)) a) (hk : ZOK X (pc + 3) kk)
    (hM : zMono X.S0 S) (hE : zExt X.S0 X.ad ad) (hS : va_S (zAA X.g) X.s.heap H locs) (hL : zLR ad S ls X.nL L) (hl : zlvs S st) : zGo X H locs (F0 X.m pc ls stk) := by
  intro T hT Y
  rcases hr T hT Y with ⟨v, st₀, t, T', L1, h0, Y', hL1, e1, e2, ⟨w, S', ad', hv, hK, hW', hM', hE', hx, hF⟩, go⟩ | ⟨q, st₀, t, T', L1, E, ce, h0, Y', hL1, e1, e2, ⟨n, S', ad', hE1, hn1, hn3, hK, hW', hM', hE', hF⟩, hce, hcv, hcl, go⟩
  · have hS1 := zS_after (S := S) (S0 := S) h0 e1 hS hL1 hF
    have hvw : v = w.map (zc ad') := by
      have := hv
      injection this
    subst hvw
    have hst : st.map (zc ad') = st.map (zc ad) := zcs_ext hE' hl
    cases w with
    | none =>
      obtain ⟨t2, a1, b1⟩ := hk L st S' ad' T'.heap (locs ++ L1) ls hK (by rw [e1]; exact hW') (hM.tr hM') (hE.tr hM hE') hS1 (hL.ext hM' hE') (hl.mono hM') T' rfl Y'
      rw [hst] at a1
      exact ⟨t2, go t2 a1, b1⟩
    | some x =>
      obtain ⟨t2, a1, b1⟩ := hk L (x :: st) S' ad' T'.heap (locs ++ L1) ls hK (by rw [e1]; exact hW') (hM.tr hM') (hE.tr hM hE') hS1 (hL.ext hM' hE') ⟨(hx x rfl).1, hl.mono hM'⟩ T' rfl Y'
      rw [List.map_cons, hst] at a1
      exact ⟨t2, go t2 a1, b1⟩
  · have hS1 := zS_after (S := S) (S0 := S) h0 e1 hS hL1 hF
    have hout := vx_out (p := X.p) (l := X.l) (e := X.e) (R := X.R) (s := X.s) (m := X.m) (args := X.a) (below := X.b) (meth := X.meth) (c := X.c) (H := T'.heap) (locs := locs ++ L1) (cells := X.ce + 1) (slots := X.sl + 6) (mc := X.ce + 1) (ms := X.sl + 6) (free := zAA X.g) (Qc := fun _ _ _ _ => False) (XC := zXC X.g X.ad X.S0 X.K) (ls := ls) (rest := st.map (zc ad)) (pc := pc) (E := E) (ce := ce) (q := q)
      (fun x hx => (C.hnh ho x hx).elim) C.hlk (by rw [e1]; exact hce) hcv hcl (fun t' ht' _ => ⟨n, S', ad', hE1, hn1, hn3, hK, by rw [ht', e1]; exact hW', hM.tr hM', hE.tr hM hE', hS1.F ht'⟩) hS1.2.2 (Nat.le_refl _) (Nat.le_refl _)
    obtain ⟨t2, a1, b1⟩ := hout T' rfl Y'
    exact ⟨t2, go.trans a1, C.hQ t2 (zMQ_thr (A0 := zAA X.g) t2 b1)⟩
theorem zsum8 {ad : ZA} {st : List ZV} (h : Nat.ble st.length 4 = true) : ((st.map (zc ad)).map fun v => v.category).sum ≤ 8 := by
  have h1 := zsum ad st
  have h2 := Nat.le_of_ble_eq_true h
  omega
theorem z_invV_ok {pc index k n : Nat} {y : MethodName} {bytes : ByteArray} {maxL : Nat} {rt : Option FieldType} {rm : Room} {Cn : String} {T : u_T} {N : Nat} {ty : Nat → FieldType} {sp : ZSp} {kk : ZP} (C : zCx X cc own ret F Lo cx sx) (ho : own ≠ "PointsbookLaw") (hM : zMet X.l y bytes maxL rt rm 0 0 sp) (hrm : rm.cells = 1 ∧ rm.slots = 6) (hR : rm.frames + 1 ≤ F ∧ 8 + (maxL + 11) + rm.locals ≤ Lo) (hcx : 1 ≤ cx) (hsx : 6 ≤ sx)
    (hw : zcall own index y bytes maxL rt n) (hinst : Cond.instanceMethod y ∈ wG) (hsel : Cond.selects Cn y y ∈ wG) (hK : zKl k Cn T N ty) (hd : decode cc pc = .ok (.invokevirtual index, 3)) (hk : ZOK X (pc + 3) kk) : ZOK X pc (z_invV k n sp kk) := by
  intro L st S ad H locs ls hP hW hM' hE hS hL hl
  have hP1 : (match ztake (n + 1) st [] with
    | some (.inr (.inr (some q)) :: as, st') => bif Nat.beq q.1 k && (Nat.ble st'.length 4 && as.all zc1b) then sp (.inr (.inr (some q)) :: as) S (zcont kk L st' X.K) else False
    | _ => False) := hP
  cases hz : ztake (n + 1) st [] with
  | none => rw [hz] at hP1; exact False.elim hP1
  | some z =>
    rw [hz] at hP1
    obtain ⟨as0, st'⟩ := z
    rcases as0 with _ | ⟨x | x | _ | ⟨a, i⟩, as⟩ <;> try exact False.elim hP1
    have hP2 : (bif Nat.beq a k && (Nat.ble st'.length 4 && as.all zc1b) then sp (zr a i :: as) S (zcont kk L st' X.K) else False) := hP1
    cases hq : Nat.beq a k && (Nat.ble st'.length 4 && as.all zc1b) with
    | false => rw [hq] at hP2; exact False.elim hP2
    | true =>
      rw [hq] at hP2
      obtain ⟨g1, g2⟩ := (Bool.and_eq_true _ _).mp hq
      obtain ⟨g3, g4⟩ := (Bool.and_eq_true _ _).mp g2
      have ha : a = k := Nat.eq_of_beq_eq_true g1
      obtain ⟨t1, t2⟩ := ztake_sp hz
      have hst : st = as.reverse ++ (zr a i :: st') := by
        rw [List.reverse_cons, List.append_assoc] at t1
        exact t1.symm
      have hlen : as.length = n := by
        rw [List.length_cons] at t2
        have : ([] : List ZV).length = 0 := rfl
        omega
      have hlall := zlvs_iff.mp hl
      rw [hst] at hlall
      have hlas : zlvs S as := zlvs_iff.mpr (fun v hv => hlall v (List.mem_append_left _ (List.mem_reverse.mpr hv)))
      have hlv : zlv S a i := hlall (zr a i) (List.mem_append_right _ List.mem_cons_self)
      have hlst : zlvs S st' := zlvs_iff.mpr (fun v hv => hlall v (List.mem_append_right _ (List.mem_cons_of_mem _ hv)))
      subst ha
      have hrun := z_runV (mc := 0) (ms := 0) (pc := pc) (ls := ls) (rest := st'.map (zc ad)) C hM hrm hR hcx hsx hw hinst hsel hK hlv hP2 hW hS hlas (zc1_of g4) hlen hL.1 (zsum8 g3) hd
      have hgo := z_after C ho hrun hk hM' hE hS hL hlst
      have hmap : st.map (zc ad) = (as.map (zc ad)).reverse ++ .ref (ad a i) :: st'.map (zc ad) := by
        rw [hst, List.map_append, List.map_reverse]
        rfl
      rw [hmap]
      exact hgo
theorem z_invS_ok {pc index n : Nat} {y : MethodName} {bytes : ByteArray} {maxL : Nat} {rt : Option FieldType} {rm : Room} {sp : ZSp} {kk : ZP} (C : zCx X cc own ret F Lo cx sx) (ho : own ≠ "PointsbookLaw") (hM : zMet X.l y bytes maxL rt rm 0 0 sp) (hrm : rm.cells = 1 ∧ rm.slots = 6) (hR : rm.frames + 1 ≤ F ∧ 8 + (maxL + 11) + rm.locals ≤ Lo) (hcx : 1 ≤ cx) (hsx : 6 ≤ sx)
    (hw : zcall own index y bytes maxL rt n) (hst : Cond.static y ∈ wG) (hd : decode cc pc = .ok (.invokestatic index, 3)) (hk : ZOK X (pc + 3) kk) : ZOK X pc (z_invS n sp kk) := by
  intro L st S ad H locs ls hP hW hM' hE hS hL hl
  have hP1 : (match ztake n st [] with
    | some (as, st') => bif Nat.ble st'.length 4 && as.all zc1b then sp as S (zcont kk L st' X.K) else False
    | none => False) := hP
  cases hz : ztake n st [] with
  | none => rw [hz] at hP1; exact False.elim hP1
  | some z =>
    rw [hz] at hP1
    obtain ⟨as, st'⟩ := z
    have hP2 : (bif Nat.ble st'.length 4 && as.all zc1b then sp as S (zcont kk L st' X.K) else False) := hP1
    cases hq : Nat.ble st'.length 4 && as.all zc1b with
    | false => rw [hq] at hP2; exact False.elim hP2
    | true =>
      rw [hq] at hP2
      obtain ⟨g3, g4⟩ := (Bool.and_eq_true _ _).mp hq
      obtain ⟨t1, t2⟩ := ztake_sp hz
      have hst9 : st = as.reverse ++ st' := t1.symm
      have hlen : as.length = n := t2
      have hlall := zlvs_iff.mp hl
      rw [hst9] at hlall
      have hlas : zlvs S as := zlvs_iff.mpr (fun v hv => hlall v (List.mem_append_left _ (List.mem_reverse.mpr hv)))
      have hlst : zlvs S st' := zlvs_iff.mpr (fun v hv => hlall v (List.mem_append_right _ hv))
      have hrun := z_runS (mc := 0) (ms := 0) (pc := pc) (ls := ls) (rest := st'.map (zc ad)) C hM hrm hR hcx hsx hw hst hP2 hW hS hlas (zc1_of g4) hlen hL.1 (zsum8 g3) hd
      have hgo := z_after C ho hrun hk hM' hE hS hL hlst
      have hmap : st.map (zc ad) = (as.map (zc ad)).reverse ++ st'.map (zc ad) := by
        rw [hst9, List.map_append, List.map_reverse]
      rw [hmap]
      exact hgo
end ZJ
-- a method's entry
def zin : Nat → List ZV → List (Option ZV)
  | 0, _ => []
  | n + 1, [] => none :: zin n []
  | n + 1, a :: as => some a :: zin n as
def zsp (maxL : Nat) (P : ZP) : ZSp := fun as S K => P (zin maxL as) [] S K
theorem zin_len : ∀ (n : Nat) (as : List ZV), (zin n as).length = n
  | 0, _ => rfl
  | n + 1, [] => congrArg Nat.succ (zin_len n [])
  | n + 1, _ :: as => congrArg Nat.succ (zin_len n as)
theorem zin_nth {ad : ZA} : ∀ (n : Nat) (as : List ZV) (i0 i : Nat) (v : ZV), (∀ x ∈ as, zc1 x) → znth (zin n as) i = some v → (i0 + i, zc ad v) ∈ lv_args i0 (as.map (zc ad)) ∧ v ∈ as
  | 0, _, _, _, _, _, h => by cases h
  | n + 1, [], _, 0, _, _, h => by cases h
  | n + 1, [], i0, i + 1, v, h1, h => by
    obtain ⟨-, h2⟩ := zin_nth (ad := ad) n [] i0 i v h1 h
    cases h2
  | n + 1, a :: as, i0, 0, v, _, h => by
    cases h
    exact ⟨List.mem_cons_self, List.mem_cons_self⟩
  | n + 1, a :: as, i0, i + 1, v, h1, h => by
    obtain ⟨h2, h3⟩ := zin_nth (ad := ad) n as (i0 + 1) i v (fun x hx => h1 x (List.mem_cons_of_mem _ hx)) h
    refine ⟨?_, List.mem_cons_of_mem _ h3⟩
    have hc : (zc ad a).category = 1 := zcat (h1 a List.mem_cons_self)
    show _ ∈ (i0, zc ad a) :: lv_args (if (zc ad a).category = 2 then i0 + 2 else i0 + 1) (as.map (zc ad))
    rw [if_neg (by rw [hc]; decide), show i0 + (i + 1) = i0 + 1 + i by omega]
    exact List.mem_cons_of_mem _ h2
theorem zsl_len (ad : ZA) : ∀ {as : List ZV}, (∀ x ∈ as, zc1 x) → (lg_sl (as.map (zc ad))).length = as.length
  | [], _ => rfl
  | a :: as, h => by
    have hc : (zc ad a).category = 1 := zcat (h a List.mem_cons_self)
    have h1 := zsl_len ad (as := as) (fun x hx => h x (List.mem_cons_of_mem _ hx))
    simp only [lg_sl, List.map_cons, List.flatMap_cons, hc] at h1 ⊢
    simp [h1]
theorem zLR_in {ad : ZA} {S : ZS} {n : Nat} {as : List ZV} (hn : as.length ≤ n) (h1 : ∀ x ∈ as, zc1 x) (hl : zlvs S as) : zLR ad S ((lg_sl (as.map (zc ad)) ++ List.replicate (n - (lg_sl (as.map (zc ad))).length) Slot.unset).toArray) n (zin n as) := by
  have h2 := lv_entry (as.map (zc ad)) (n := n) (by rw [zsl_len ad h1]; exact hn)
  refine ⟨h2.1, h2.2.1, zin_len n as, fun i v hv => ?_⟩
  obtain ⟨h3, h4⟩ := zin_nth (ad := ad) n as 0 i v h1 hv
  rw [Nat.zero_add] at h3
  exact ⟨h2.2.2 _ h3, zlvs_iff.mp hl v h4, h1 v h4⟩
theorem zX_go {X : ZX} {P : ZP} {as : List ZV} {n : Nat} {s₁ : State} (hZ : ZOK X 0 P) (hn : X.nL = n) (hP : P (zin n as) [] X.S0 X.K) (hlen : as.length ≤ n) (hW : zW X.g X.ad X.S0 X.s.heap) (h1 : ∀ x ∈ as, zc1 x) (hl : zlvs X.S0 as) (hh : s₁.heap = X.s.heap) (Y : Stand X.p X.l X.e X.R X.s X.m X.a X.b X.meth X.c s₁ [] X.ce X.sl) : ∃ t, Steps X.p.tables X.e X.b (s₁.setTop (entryFrame X.m (as.map (zc X.ad)).toArray n)) t ∧ X.Q t := by
  subst hn
  rw [lg_entry_eq]
  exact hZ (zin X.nL as) [] X.S0 X.ad X.s.heap [] _ hP hW zMono.rf zExt.rf va_S.rf (zLR_in hlen h1 hl) trivial s₁ hh Y
theorem zEnd_mono {below : List Frame} {g : ZG} {ad : ZA} {S0 : ZS} {K : ZK} {args : Array Value} {s : State} {a b a' b' : Nat} (h1 : a ≤ a') (h2 : b ≤ b') (t : State) (h : zEndP below g ad S0 K args s a b t) : zEndP below g ad S0 K args s a' b' t := by
  obtain ⟨o, g1, g2, ⟨hq, L, hf, hL⟩ | ⟨q, hq, E, ce, L, e1, e2, e3, e4, e5, e6, e7⟩⟩ := h
  · exact ⟨o, g1, g2, Or.inl ⟨hq, L, ⟨hf.1, hf.2.1, hf.2.2.mono h1 h2⟩, hL⟩⟩
  · exact ⟨o, g1, g2, Or.inr ⟨q, hq, E, ce, L, e1, e2, e3, e4, e5, e6.mono (by omega) (by omega), e7⟩⟩
theorem zMet_of {mc ms : Nat} {l : Launch} {y : MethodName} {bytes : ByteArray} {maxL : Nat} {ret : Option FieldType} {rm : Room} (hl : l.stackTraces = false) (hy : plainName y.cls = true) (hrm : rm.cells = mc + 1 ∧ rm.slots = ms + 6) {P : ZP} (body : ∀ X : ZX, zCx X bytes y.cls ret rm.frames rm.locals (mc + 1) (ms + 6) → X.nL = maxL → X.ce = 0 ∧ X.sl = 0 ∧ X.Q = zEndP X.b X.g X.ad X.S0 X.K X.a X.s mc ms → ZOK X 0 P) :
    zMet l y bytes maxL ret rm mc ms (fun as S K => as.length ≤ maxL ∧ zsp maxL P as S K) := by
  intro g ad S K as hsp
  refine MetFree.of_bodyS (code := bytes) (maxLocals := maxL) (ret := ret) hy ?_ ?_
  · intro args s m h hn
    obtain ⟨meth, c, h1, h2, h3, h4, h5, h6, -, -⟩ := Cond.code_spec hn (atoms_spec (ws := Cond.code y bytes maxL ret :: wG) h _ List.mem_cons_self)
    exact ⟨meth, c, h1, h2, h3, h4, h5, h6⟩
  · intro p e s m args below meth c s₁ B hml hP _
    have hh0 : s₁.heap = s.heap := by rw [B.state]; rfl
    have ht : ∀ x ∈ c.exceptionTable.toList, False := by
      obtain ⟨meth9, c9, h1, h2, -, -, -, -, h7, -⟩ := Cond.code_spec B.named (atoms_spec (ws := Cond.code y bytes maxL ret :: wG) B.pre _ List.mem_cons_self)
      cases Option.some.inj (h1.symm.trans B.method)
      cases Option.some.inj (h2.symm.trans (Stand.of_body B).code)
      intro x hx
      rw [Array.isEmpty_iff.mp h7] at hx
      cases hx
    obtain ⟨hargs, hE, hW, hlv, h1⟩ := hP
    have hts := atoms_spec (ws := Cond.code y bytes maxL ret :: wG) B.pre
    have hY := Stand.of_body B
    have hR : (headSpec (Cond.code y bytes maxL ret :: wG) rm).room = rm := rfl
    rw [hR] at hY
    have C : zCx (p, l, e, rm, s, m, args, below, meth, c, g, S, ad, K, 0, 0, maxL, zEndP below g ad S K args s mc ms) bytes y.cls ret rm.frames rm.locals (mc + 1) (ms + 6) := ⟨B.exec, B.bytes, hml, fun w hw => hts w (List.mem_cons_of_mem _ hw), findClass_of_methodNamed B.named, B.notSynchronized, B.returns, hl, Or.inr ht, hE, fun t h => zEnd_mono (Nat.zero_le _) (Nat.zero_le _) t h, Nat.le_refl _, Nat.le_refl _, Nat.le_of_eq ((Nat.zero_add _).trans hrm.1.symm), Nat.le_of_eq ((Nat.zero_add _).trans hrm.2.symm)⟩
    obtain ⟨t, a1, o, b1, b2, b3⟩ := zX_go (as := as) (body _ C rfl ⟨rfl, rfl, rfl⟩) rfl hsp.2 hsp.1 hW h1 hlv hh0 hY
    refine ⟨t, o, ?_, b1, b2, b3⟩
    rw [hargs]
    exact a1
-- loops: n rounds
def z_iter (body : ZP → ZP) : Nat → ZP
  | 0 => fun _ _ _ _ => False
  | n + 1 => body (z_iter body n)
def z_loop (body : ZP → ZP) : ZP := fun L st S K => ∃ n, z_iter body n L st S K
theorem z_loop_ok {X : ZX} {pc : Nat} {body : ZP → ZP} (h : ∀ J, ZOK X pc J → ZOK X pc (body J)) : ZOK X pc (z_loop body) := by
  have key : ∀ n, ZOK X pc (z_iter body n) := fun n => by
    induction n with
    | zero => exact fun L st S ad H locs ls hP => False.elim hP
    | succ n ih => exact h _ ih
  intro L st S ad H locs ls ⟨n, hP⟩
  exact key n L st S ad H locs ls hP
end
section
/-! the law's own rows: calls that make cells, wrappers with handlers, the script, the long row -/
abbrev zXc (X : ZX) (a b : Nat) : ZX := (X.p, X.l, X.e, X.R, X.s, X.m, X.a, X.b, X.meth, X.c, X.g, X.S0, X.ad, X.K, a, b, X.nL, X.Q)
section Payer3
variable {l : Launch} {R : Room} {p : Program} {e : Env} {below : List Frame} {s : State} {sargs : Array Value} {y : MethodName} {len W9 : Nat}
/-- follows vx_backW -/
theorem z_backW {ws : List Cond} {rm : Room} {Pc : Array Value → State → Prop} {Qc : Array Value → State → Outcome → State → Prop} {XC : String → State → State → Prop} {mc ms mx my : Nat} {free : Addr → Prop} {bytes : ByteArray} {maxL : Nat} {ret : Option FieldType} {hh : List (Nat × Nat × Nat × Nat)}
    (hM : MetFree l y (headSpec ws rm) Pc (fun _ _ _ _ _ => True) (zQm Qc XC mc ms mx my free)) (hblind : FrameBlind Pc) (hrc : rm.cells = mx) (hrs : rm.slots = my)
    (hframes : rm.frames + 1 ≤ R.frames) (hlocals : W9 + (maxL + 11) + rm.locals ≤ R.locals)
    (hws : ∀ w ∈ ws, ∀ a' U, s.WarmedH U.vm → w.before a' U = true) (hcode : Cond.codeWith y bytes maxL ret hh ∈ ws) (hinit : ∀ a' U, s.WarmedH U.vm → (Cond.initialized y.cls).before a' U = true) :
    vx_Back l R p e below s sargs y len W9 (PreOf R mx my Pc) (PostOf Qc mc ms free) (vx_Post XC mx my free) := by
  intro m meth c A g ig mk a X hg hsize hdg hW hn hp
  have h1 : (headSpec ws rm).pre.before a A.U = true := atoms_intro fun w hw => hws w hw _ _ X.warmed
  have h2 : (Cond.codeWith y bytes maxL ret hh).before a A.U = true := hws _ hcode _ _ X.warmed
  have h3 : (Cond.initialized y.cls).before a A.U = true := hinit _ _ X.warmed
  have h4 : A.cells + (headSpec ws rm).room.cells ≤ R.cells := by rw [show (headSpec ws rm).room.cells = mx from hrc]; exact hp.1
  have h5 : A.slots + (headSpec ws rm).room.slots ≤ R.slots := by rw [show (headSpec ws rm).room.slots = my from hrs]; exact hp.2.1
  have hPc : Pc a (A.U.calling g mk a) := hblind _ _ _ _ hp.2.2
  obtain ⟨U, Ls, c0, s0⟩ := A
  dsimp only [Pt.U, Pt.locs, Pt.cells, Pt.slots] at h1 h2 h3 h4 h5 X hn hPc ⊢
  obtain ⟨m9, methY, cY, hn9, hmY, hcY, -, hlY, -⟩ := Cond.codeWith_spec h2
  cases Option.some.inj (hn9.symm.trans hn)
  obtain ⟨kY, hkY, -⟩ := className_of_methodNamed hn
  have hinitY : kY.init = .initialized := Cond.initialized_spec (findClass_of_methodNamed hn) hkY h3
  have h : At U g.method c below := by rw [hg]; exact X.here
  have hlocals9 : W9 + (maxL + 11) + (headSpec ws rm).room.locals ≤ R.locals := hlocals
  have happ : (headSpec ws rm).appliesLoose y e.platform (U.calling g mk a) = true :=
    Spec.appliesLoose_calling (g := g) h hdg hn hkY hinitY
      (X.room_calling (g := g) (R' := (headSpec ws rm).room) hsize hmY hcY hframes (by rw [hlY]; omega) h4 h5) h1
  obtain ⟨mid, hmid⟩ := h.above
  have hfr : (U.setTop g).frames = (.java g :: mid) ++ below := by rw [State.frames_setTop' g h.top, hmid]; rfl
  obtain ⟨o, s₂, hsteps, -, hend, hq⟩ := Steps.callFree hM p X.admits X.cas X.clock (acts := []) hfr happ hPc trivial
  have hq' : zQm Qc XC mc ms mx my free a (U.calling g mk a) o s₂ := hq
  rw [State.frames_setTop' g h.top] at hend
  obtain ⟨g₀, hg0⟩ := Option.isSome_iff_exists.mp h.top
  obtain ⟨r, hr⟩ := State.topJava?_eq_some.mp hg0
  have hr' : (({ U with heap := s₂.heap, slotsUsed := s₂.slotsUsed } : State).setVm s₂.vm).frames = .java g₀ :: r := hr
  rcases hq' with ⟨hqc, L, hfe, hL⟩ | ⟨q, rfl, E, ce, L, hx, hce, hcv, hcl, hW₂, hsm, hL⟩
  · obtain ⟨⟨v, rfl⟩, hW₂, e2, q2, q3, q4, q5, q6⟩ := id hfe
    have e3 : s₂ = ({ (U.calling g mk a).setFrames s₂.frames with heap := s₂.heap, slotsUsed := s₂.slotsUsed } : State).setVm s₂.vm := by
      have : s₂ = ({ s₂ with vm := (U.calling g mk a).vm } : State).setVm s₂.vm := rfl
      rw [e2] at this
      exact this
    obtain ⟨c₂, i₂, len₂, hc₂, hd₂, hf₂⟩ := hend
    have hW' : U.WarmedH s₂.vm := hW₂
    have hcc : c₂ = c := by
      have h1 : s₂.code? g.method = U.code? g.method := by
        rw [State.code?_eq, State.code?_eq, hW'.alike.method?]
      exact Option.some.inj (hc₂.symm.trans (h1.trans h.code))
    subst hcc
    have hlen : len₂ = len := by rw [hdg] at hd₂; cases hd₂; rfl
    subst hlen
    have hs₂ : s₂ = (({ U with heap := s₂.heap, slotsUsed := s₂.slotsUsed } : State).setVm s₂.vm).setTop { g with pc := g.pc + len₂, stack := v.toList ++ g.stack } := by
      refine e3.trans ?_
      rw [hf₂, State.calling_eq h.top, State.setFrames_setFrames, State.setTop_of_frames _ hr', hr]
      rfl
    have hsame : U.sameButNew ({ U with heap := s₂.heap, slotsUsed := s₂.slotsUsed } : State) L mc ms := by
      refine ⟨?_, q2, q3, q4, q5, q6⟩
      obtain ⟨t, ht, -⟩ := State.frames_cons hr
      show ({ U with heap := s₂.heap, slotsUsed := s₂.slotsUsed } : State) = { U.setFrames U.frames with heap := s₂.heap, slotsUsed := s₂.slotsUsed }
      rw [State.setFrames_self ht]
    subst hg
    refine Or.inl ⟨v, ⟨(({ U with heap := s₂.heap, slotsUsed := s₂.slotsUsed } : State).setVm s₂.vm), Ls ++ L, c0 + mc, s0 + ms⟩,
      ⟨X.admits, X.cas, X.clock, X.frames, X.room, X.hears, X.method, X.code, (X.here.setHeapUsed s₂.heap s₂.slotsUsed).setVm hW'.alike, X.tail, State.WarmedH.trans X.warmed hW', X.limits, X.bytes, X.same.trans (hsame.setVm s.vm)⟩,
      ⟨g, mk, s₂, L, rfl, rfl, hqc, rfl, hL, rfl, rfl⟩, ?_⟩
    show Steps p.tables e below _ ((({ U with heap := s₂.heap, slotsUsed := s₂.slotsUsed } : State).setVm s₂.vm).setTop { g with pc := g.pc + len₂, stack := v.toList ++ g.stack })
    rw [← hs₂]
    exact hsteps
  · obtain ⟨e2, q2, q3, q4, q5, q6⟩ := id hsm
    have e3 : s₂ = ({ (U.calling g mk a).setFrames s₂.frames with heap := s₂.heap, slotsUsed := s₂.slotsUsed } : State).setVm s₂.vm := by
      have : s₂ = ({ s₂ with vm := (U.calling g mk a).vm } : State).setVm s₂.vm := rfl
      rw [e2] at this
      exact this
    have hf₂ : s₂.frames = .throwing q :: .java g :: U.frames.tail := hend
    have hW' : U.WarmedH s₂.vm := hW₂
    have hs₂ : s₂ = ((({ U with heap := s₂.heap, slotsUsed := s₂.slotsUsed } : State).setVm s₂.vm).setTop g).pushFrame (.throwing q) := by
      refine e3.trans ?_
      rw [hf₂, State.calling_eq h.top, State.setFrames_setFrames, State.pushFrame, State.frames_setTop _ hr', State.setTop_of_frames _ hr', State.setFrames_setFrames, hr]
      rfl
    have hsame : U.sameButNew ({ U with heap := s₂.heap, slotsUsed := s₂.slotsUsed } : State) L mx my := by
      refine ⟨?_, q2, q3, q4, q5, q6⟩
      obtain ⟨t, ht, -⟩ := State.frames_cons hr
      show ({ U with heap := s₂.heap, slotsUsed := s₂.slotsUsed } : State) = { U.setFrames U.frames with heap := s₂.heap, slotsUsed := s₂.slotsUsed }
      rw [State.setFrames_self ht]
    subst hg
    refine Or.inr ⟨q, ⟨(({ U with heap := s₂.heap, slotsUsed := s₂.slotsUsed } : State).setVm s₂.vm), Ls ++ L, c0 + mx, s0 + my⟩,
      ⟨X.admits, X.cas, X.clock, X.frames, X.room, X.hears, X.method, X.code, (X.here.setHeapUsed s₂.heap s₂.slotsUsed).setVm hW'.alike, X.tail, State.WarmedH.trans X.warmed hW', X.limits, X.bytes, X.same.trans (hsame.setVm s.vm)⟩,
      ⟨g, mk, s₂, L, E, ce, rfl, rfl, hx, hce, hcv, hcl, rfl, hL, rfl, rfl⟩, ?_⟩
    show Steps p.tables e below _ (((({ U with heap := s₂.heap, slotsUsed := s₂.slotsUsed } : State).setVm s₂.vm).setTop g).pushFrame (.throwing q))
    rw [← hs₂]
    exact hsteps
end Payer3
def zMetW (l : Launch) (y : MethodName) (bytes : ByteArray) (maxL : Nat) (ret : Option FieldType) (hh : List (Nat × Nat × Nat × Nat)) (rm : Room) (mc ms : Nat) (sp : ZSp) : Prop :=
  ∀ (g : ZG) (ad : ZA) (S : ZS) (K : ZK) (as : List ZV), sp as S K → MetFree l y (headSpec (Cond.codeWith y bytes maxL ret hh :: wG) rm) (zPc g ad S as) (fun _ _ _ _ _ => True) (zQm (zQc g ad S K) (zXC g ad S K) mc ms (mc + 1) (ms + 6) (zAA g))
def zcallW (own : String) (index : Nat) (y : MethodName) (bytes : ByteArray) (maxL : Nat) (ret : Option FieldType) (hh : List (Nat × Nat × Nat × Nat)) (n : Nat) : Prop :=
  Cond.methodLink own index y ∈ wG ∧ Cond.codeWith y bytes maxL ret hh ∈ wG ∧ Cond.initialized y.cls ∈ wG ∧ (y.cls ≠ "java/lang/invoke/MethodHandle" ∧ y.cls ≠ "java/lang/invoke/VarHandle") ∧ (parseMethodDescriptor y.desc).map (fun d => d.parameters.length) = some n
section ZL
variable {X : ZX} {cc : ByteArray} {own : String} {ret : Option FieldType} {F Lo cx sx : Nat}
theorem zcallW_ws {y : MethodName} {bytes : ByteArray} {maxL : Nat} {rt : Option FieldType} {hh : List (Nat × Nat × Nat × Nat)} (hw : ∀ w ∈ wG, w.before X.a X.s = true) (hc : Cond.codeWith y bytes maxL rt hh ∈ wG) : ∀ w ∈ (Cond.codeWith y bytes maxL rt hh :: wG), ∀ (a' : Array Value) (U : State), X.s.WarmedH U.vm → w.before a' U = true := fun w h a' U hW => by
  rcases List.mem_cons.mp h with rfl | h
  · exact word_at hW (wG_good hc) (hw _ hc)
  · exact word_at hW (wG_good h) (hw _ h)
theorem z_runSW {index n : Nat} {y : MethodName} {bytes : ByteArray} {maxL : Nat} {rt : Option FieldType} {rm : Room} {hh : List (Nat × Nat × Nat × Nat)} {mc ms pc : Nat} {sp : ZSp} {K : ZK} {S : ZS} {ad : ZA} {H : Heap} {locs : List Loc} {ls : Array Slot} {as : List ZV} {rest : List Value} (C : zCx X cc own ret F Lo cx sx) (hM : zMetW X.l y bytes maxL rt hh rm mc ms sp) (hrm : rm.cells = mc + 1 ∧ rm.slots = ms + 6) (hR : rm.frames + 1 ≤ F ∧ 8 + (maxL + 11) + rm.locals ≤ Lo) (hcx : mc + 1 ≤ cx) (hsx : ms + 6 ≤ sx)
    (hw : zcallW own index y bytes maxL rt hh n) (hst : Cond.static y ∈ wG)
    (hsp : sp as S K) (hW : zW X.g ad S H) (hS : va_S (zAA X.g) X.s.heap H locs) (hl : zlvs S as) (h1 : ∀ x ∈ as, zc1 x) (hn : as.length = n) (hsz : ls.size = X.nL) (hcat : (rest.map fun v => v.category).sum ≤ 8) (hd : decode cc pc = .ok (.invokestatic index, 3)) :
    zRun X X.g ad S K mc ms H locs (F0 X.m pc ls ((as.map (zc ad)).reverse ++ rest)) rest ((as.map (zc ad)).toArray) := by
  obtain ⟨w1, w2, w3, w4, w5⟩ := hw
  have hB : vx_Back X.l X.R X.p X.e X.b X.s X.a y 3 8 (PreOf X.R (mc + 1) (ms + 6) (zPc X.g ad S as)) (PostOf (zQc X.g ad S K) mc ms (zAA X.g)) (vx_Post (zXC X.g ad S K) (mc + 1) (ms + 6) (zAA X.g)) :=
    z_backW (hh := hh) (bytes := bytes) (maxL := maxL) (ret := rt) (hM X.g ad S K _ hsp) (zPc_blind _ _ _ _) hrm.1 hrm.2 (Nat.le_trans hR.1 C.hF) (Nat.le_trans hR.2 C.hLo) (zcallW_ws C.hw w2) List.mem_cons_self (fun a' U hW9 => word_at hW9 (wG_good w3) (C.hw _ w3))
  have hPc := zPc_at (as := as) C.hE hW hS hl h1
  have hlen : (as.map (zc ad)).length = n := (List.length_map _).trans hn
  intro T9 hT Y
  rcases vx_callSX Y C.hx (hh := hh) (bytes := bytes) (maxL := maxL) (ret := rt) C.hown (C.hw _ w1) (C.hw _ hst) (C.hw _ w3) (C.hw _ w2) w4 hB rfl (hsz.trans C.hml.symm) (argsL := as.map (zc ad)) (rest := rest) (fun sig h => by rw [h] at w5; exact hlen.trans (Option.some.inj w5).symm) rfl (lv_room hcat) (by rw [C.hb]; exact hd)
    (fun vm₁ hW₁ => ⟨Nat.le_trans (Nat.add_le_add_left hcx _) C.hce, Nat.le_trans (Nat.add_le_add_left hsx _) C.hsl, hPc (T9.setVm vm₁) hT hW₁⟩) with ⟨v, vm₁, ⟨U', l2, c2, s2⟩, hW₁, X', ⟨g', mk, t, L, e1, e2, hq, h1, hL, h2, h3⟩, st⟩ | ⟨q, vm₁, ⟨U', l2, c2, s2⟩, hW₁, X', ⟨g', mk, t, L, E, ce, e1, e2, hq, hce, hcv, hcl, h1, hL, h2, h3⟩, st⟩
  · dsimp only [Pt.U, Pt.locs, Pt.cells, Pt.slots] at X' e1 e2 h1 h2 h3 st
    subst h1; subst h2; subst h3
    exact Or.inl ⟨v, (T9.setVm vm₁).calling g' mk _, t, U', L, hT, X', hL, e1, e2, hq, st⟩
  · dsimp only [Pt.U, Pt.locs, Pt.cells, Pt.slots] at X' e1 e2 h1 h2 h3 st hcl
    subst h1; subst h2; subst h3
    exact Or.inr ⟨q, (T9.setVm vm₁).calling g' mk _, t, U', L, E, ce, hT, X', hL, e1, e2, hq, hce, hcv, vx_cls hW₁ hcl, st⟩
/-- behind a call, with its cost, and what a throw goes on with -/
theorem z_afterC {pc mc ms : Nat} {S : ZS} {ad : ZA} {H : Heap} {locs : List Loc} {ls : Array Slot} {a : Array Value} {L : List (Option ZV)} {st : List ZV} {stk : List Value} {kk : ZP} {K' : ZK}
    (hr : zRun X X.g ad S K' mc ms H locs (F0 X.m pc ls stk) (st.map (zc ad)) a) (h0 : ∀ S', K' (.inl none) S' → kk L st S' X.K) (h1 : ∀ v S', K' (.inl (some v)) S' → kk L (v :: st) S' X.K) (hk : ZOK (zXc X (X.ce + mc) (X.sl + ms)) (pc + 3) kk)
    (hM : zMono X.S0 S) (hE : zExt X.S0 X.ad ad) (hS : va_S (zAA X.g) X.s.heap H locs) (hL : zLR ad S ls X.nL L) (hl : zlvs S st)
    (kx : ∀ (n : Nat) (S' : ZS) (ad' : ZA) (H1 : Heap) (locs1 : List Loc) (q : Addr) (ce : Cell), 1 ≤ n → n ≤ 3 → K' (.inr n) S' → zW X.g ad' S' H1 → zMono S S' → zExt S ad ad' → va_S (zAA X.g) X.s.heap H1 locs1 → H1[q]? = some ce → ce.vm = .none → X.s.vm.findClass (zen n) = some ce.cls → vx_W X.p X.l X.e X.R X.s X.m X.a X.b X.meth X.c H1 locs1 (X.ce + (mc + 1)) (X.sl + (ms + 6)) X.Q (F0 X.m pc ls (st.map (zc ad))) q) : zGo X H locs (F0 X.m pc ls stk) := by
  intro T hT Y
  rcases hr T hT Y with ⟨v, st₀, t, T', L1, g0, Y', hL1, e1, e2, ⟨w, S', ad', hv, hK, hW', hM', hE', hx, hF⟩, go⟩ | ⟨q, st₀, t, T', L1, E, ce, g0, Y', hL1, e1, e2, ⟨n, S', ad', hE1, hn1, hn3, hK, hW', hM', hE', hF⟩, hce, hcv, hcl, go⟩
  · have hS1 := zS_after (S := S) (S0 := S) g0 e1 hS hL1 hF
    have hvw : v = w.map (zc ad') := by
      have := hv
      injection this
    subst hvw
    have hst : st.map (zc ad') = st.map (zc ad) := zcs_ext hE' hl
    cases w with
    | none =>
      obtain ⟨t2, a1, b1⟩ := hk L st S' ad' T'.heap (locs ++ L1) ls (h0 S' hK) (by rw [e1]; exact hW') (hM.tr hM') (hE.tr hM hE') hS1 (hL.ext hM' hE') (hl.mono hM') T' rfl Y'
      rw [hst] at a1
      exact ⟨t2, go t2 a1, b1⟩
    | some x =>
      obtain ⟨t2, a1, b1⟩ := hk L (x :: st) S' ad' T'.heap (locs ++ L1) ls (h1 x S' hK) (by rw [e1]; exact hW') (hM.tr hM') (hE.tr hM hE') hS1 (hL.ext hM' hE') ⟨(hx x rfl).1, hl.mono hM'⟩ T' rfl Y'
      rw [List.map_cons, hst] at a1
      exact ⟨t2, go t2 a1, b1⟩
  · have hS1 := zS_after (S := S) (S0 := S) g0 e1 hS hL1 hF
    subst hE1
    obtain ⟨t2, a1, b1⟩ := kx n S' ad' T'.heap (locs ++ L1) q ce hn1 hn3 hK (by rw [e1]; exact hW') hM' hE' hS1 (by rw [e1]; exact hce) hcv hcl T' rfl Y'
    exact ⟨t2, go.trans a1, b1⟩
/-- a handler of kind n at pc: its row in the table; there astore, iconst, ireturn -/
def zhnd (X : ZX) (cc : ByteArray) (own : String) (pc n : Nat) (v : Int32) : Prop :=
  ∃ (pre : List ExceptionTableEntry) (x : ExceptionTableEntry) (suf : List ExceptionTableEntry), X.c.exceptionTable.toList = pre ++ x :: suf ∧ (∀ z ∈ pre, covers z pc = false ∨ (z.catchType ≠ 0 ∧ ∃ nm : String, Cond.classLink own z.catchType nm ∈ wG ∧ va_Nc (zen n) nm X.s)) ∧ covers x pc = true ∧ x.catchType ≠ 0 ∧
    Cond.classLink own x.catchType (zen n) ∈ wG ∧ Cond.castable (zen n) (zen n) ∈ zxw ∧ ∃ (i : Nat) (d : Nat) (k : Int), i < X.nL ∧ (decode cc x.handlerPc = .ok (.astore i, 2) ∧ d = 2 ∨ ∃ k4 : Fin 4, decode cc x.handlerPc = .ok (.astore_n k4, 1) ∧ (k4 : Nat) = i ∧ d = 1) ∧ decode cc (x.handlerPc + d) = .ok (.iconst k, 1) ∧ Int32.ofInt k = v ∧ decode cc (x.handlerPc + d + 1) = .ok (.ireturn, 1)
theorem z_caught {pc n a b : Nat} {v : Int32} {S : ZS} {ad : ZA} {H : Heap} {locs : List Loc} {ls : Array Slot} {L : List (Option ZV)} {rest : List Value} {q : Addr} {ce : Cell} (C : zCx X cc own (some .int) F Lo cx sx) (hQ : ∀ t, zEndP X.b X.g X.ad X.S0 X.K X.a X.s a b t → X.Q t) (h : zhnd X cc own pc n v) (hK : X.K (.inl (some (.inl v))) S)
    (hW : zW X.g ad S H) (hM : zMono X.S0 S) (hE : zExt X.S0 X.ad ad) (hS : va_S (zAA X.g) X.s.heap H locs) (hL : zLR ad S ls X.nL L) (hce : H[q]? = some ce) (hcv : ce.vm = .none) (hcl : X.s.vm.findClass (zen n) = some ce.cls) : vx_W X.p X.l X.e X.R X.s X.m X.a X.b X.meth X.c H locs a b X.Q (F0 X.m pc ls rest) q := by
  obtain ⟨pre, x, suf, h1, h2, h3, h4, h5, h6, i, d, k, hi, h7, h8, h9, h10⟩ := h
  refine vx_catch C.hown pre x suf h1 (fun z hz => (h2 z hz).imp id (fun g => ⟨g.1, g.2.elim fun nm g2 => ⟨nm, C.hw _ g2.1, g2.2⟩⟩)) h3 h4 (C.hw _ h5) (va_Nw.use rfl (C.hE.2.2.2.2.2.1 _ h6)) hce hcv hcl ?_
  have hend : ∀ ls' : Array Slot, W X.p X.l X.e X.R X.s X.m X.a X.b X.meth X.c H locs a b X.Q (F0 X.m (x.handlerPc + d) ls' []) := fun ls' => by
    refine lv_iconst C.hx C.hb h8 h9 ?_
    have hm : W X.p X.l X.e X.R X.s X.m X.a X.b X.meth X.c H locs a b (MQ X.b (zQc X.g X.ad X.S0 X.K) X.a X.s a b (zAA X.g)) (F0 X.m (x.handlerPc + d + 1) ls' [.int v]) :=
      W.iret C.hx C.hb C.hr (fun t ht hw => ⟨some (.inl v), S, ad, rfl, hK, by rw [ht]; exact hW, hM, hE, fun v hv => by cases hv; exact ⟨trivial, trivial⟩, hS.F ht⟩) hS.2.2 h10 C.hlk
    intro T hT Y
    obtain ⟨t, a1, o, b1, b2, b3, b4⟩ := hm T hT Y
    exact ⟨t, a1, hQ t ⟨o, b1, b2, Or.inl ⟨b3, b4⟩⟩⟩
  rcases h7 with ⟨h7, rfl⟩ | ⟨k4, h7, hk4, rfl⟩
  · exact lv_astore C.hx C.hb h7 hL.has hi rfl (fun ls' _ => hend ls')
  · exact lv_astore_n C.hx C.hb h7 hk4 hL.has hi rfl (fun ls' _ => hend ls')
def zcontH (kk : ZP) (L : List (Option ZV)) (st : List ZV) (K : ZK) (hs : Nat → Option Int32) : ZK := fun o S' => match o with
  | .inl none => kk L st S' K
  | .inl (some v) => kk L (v :: st) S' K
  | .inr n => match hs n with
    | some v => K (.inl (some (.inl v))) S'
    | none => False
def z_invH (k n : Nat) (sp : ZSp) (hs : Nat → Option Int32) (kk : ZP) : ZP := fun L st S K => match ztake (n + 1) st [] with
  | some (.inr (.inr (some q)) :: as, st') => bif Nat.beq q.1 k && (Nat.ble st'.length 4 && as.all zc1b) then sp (.inr (.inr (some q)) :: as) S (zcontH kk L st' K hs) else False
  | _ => False
/-- the arguments of a call on the stack -/
theorem ztake_v {n k i : Nat} {st as st' : List ZV} {S : ZS} {ad : ZA} (hz : ztake (n + 1) st [] = some (zr k i :: as, st')) (hl : zlvs S st) : as.length = n ∧ zlvs S as ∧ zlv S k i ∧ zlvs S st' ∧ st.map (zc ad) = (as.map (zc ad)).reverse ++ .ref (ad k i) :: st'.map (zc ad) := by
  obtain ⟨t1, t2⟩ := ztake_sp hz
  have hst : st = as.reverse ++ (zr k i :: st') := by
    rw [List.reverse_cons, List.append_assoc] at t1
    exact t1.symm
  have hlall := zlvs_iff.mp hl
  rw [hst] at hlall
  refine ⟨?_, zlvs_iff.mpr (fun v hv => hlall v (List.mem_append_left _ (List.mem_reverse.mpr hv))), hlall (zr k i) (List.mem_append_right _ List.mem_cons_self), zlvs_iff.mpr (fun v hv => hlall v (List.mem_append_right _ (List.mem_cons_of_mem _ hv))), ?_⟩
  · rw [List.length_cons] at t2
    have : ([] : List ZV).length = 0 := rfl
    omega
  · rw [hst, List.map_append, List.map_reverse]
    rfl
theorem ztake_s {n : Nat} {st as st' : List ZV} {S : ZS} {ad : ZA} (hz : ztake n st [] = some (as, st')) (hl : zlvs S st) : as.length = n ∧ zlvs S as ∧ zlvs S st' ∧ st.map (zc ad) = (as.map (zc ad)).reverse ++ st'.map (zc ad) := by
  obtain ⟨t1, t2⟩ := ztake_sp hz
  have hst9 : st = as.reverse ++ st' := t1.symm
  have hlall := zlvs_iff.mp hl
  rw [hst9] at hlall
  refine ⟨t2, zlvs_iff.mpr (fun v hv => hlall v (List.mem_append_left _ (List.mem_reverse.mpr hv))), zlvs_iff.mpr (fun v hv => hlall v (List.mem_append_right _ hv)), ?_⟩
  rw [hst9, List.map_append, List.map_reverse]
theorem z_invH_ok {pc index k n mc ms : Nat} {y : MethodName} {bytes : ByteArray} {maxL : Nat} {rt : Option FieldType} {rm : Room} {Cn : String} {T : u_T} {N : Nat} {ty : Nat → FieldType} {sp : ZSp} {hs : Nat → Option Int32} {kk : ZP} (C : zCx X cc own (some .int) F Lo cx sx) (hQ : ∀ t, zEndP X.b X.g X.ad X.S0 X.K X.a X.s (X.ce + (mc + 1)) (X.sl + (ms + 6)) t → X.Q t) (hM : zMet X.l y bytes maxL rt rm mc ms sp) (hrm : rm.cells = mc + 1 ∧ rm.slots = ms + 6) (hR : rm.frames + 1 ≤ F ∧ 8 + (maxL + 11) + rm.locals ≤ Lo) (hcx : mc + 1 ≤ cx) (hsx : ms + 6 ≤ sx)
    (hw : zcall own index y bytes maxL rt n) (hinst : Cond.instanceMethod y ∈ wG) (hsel : Cond.selects Cn y y ∈ wG) (hK : zKl k Cn T N ty) (hh : ∀ n v, hs n = some v → zhnd X cc own pc n v) (hd : decode cc pc = .ok (.invokevirtual index, 3)) (hk : ZOK (zXc X (X.ce + mc) (X.sl + ms)) (pc + 3) kk) : ZOK X pc (z_invH k n sp hs kk) := by
  intro L st S ad H locs ls hP hW hM' hE hS hL hl
  have hP1 : (match ztake (n + 1) st [] with
    | some (.inr (.inr (some q)) :: as, st') => bif Nat.beq q.1 k && (Nat.ble st'.length 4 && as.all zc1b) then sp (.inr (.inr (some q)) :: as) S (zcontH kk L st' X.K hs) else False
    | _ => False) := hP
  cases hz : ztake (n + 1) st [] with
  | none => rw [hz] at hP1; exact False.elim hP1
  | some z =>
    rw [hz] at hP1
    obtain ⟨as0, st'⟩ := z
    rcases as0 with _ | ⟨x | x | _ | ⟨a, i⟩, as⟩ <;> try exact False.elim hP1
    have hP2 : (bif Nat.beq a k && (Nat.ble st'.length 4 && as.all zc1b) then sp (zr a i :: as) S (zcontH kk L st' X.K hs) else False) := hP1
    cases hq : Nat.beq a k && (Nat.ble st'.length 4 && as.all zc1b) with
    | false => rw [hq] at hP2; exact False.elim hP2
    | true =>
      rw [hq] at hP2
      obtain ⟨g1, g2⟩ := (Bool.and_eq_true _ _).mp hq
      obtain ⟨g3, g4⟩ := (Bool.and_eq_true _ _).mp g2
      have ha : a = k := Nat.eq_of_beq_eq_true g1
      obtain ⟨hlen, hlas, hlv, hlst, hmap⟩ := ztake_v (ad := ad) hz hl
      subst ha
      have hrun := z_runV (pc := pc) (ls := ls) (rest := st'.map (zc ad)) C hM hrm hR hcx hsx hw hinst hsel hK hlv hP2 hW hS hlas (zc1_of g4) hlen hL.1 (zsum8 g3) hd
      rw [hmap]
      refine z_afterC hrun (fun S' h => h) (fun v S' h => h) hk hM' hE hS hL hlst (fun n' S' ad' H1 locs1 q ce hn1 hn3 hKn hW' hm hx hS1 hce hcv hcl => ?_)
      have hKn1 : (match hs n' with
        | some v => X.K (.inl (some (.inl v))) S'
        | none => False) := hKn
      cases hv : hs n' with
      | none => rw [hv] at hKn1; exact False.elim hKn1
      | some v =>
        rw [hv] at hKn1
        exact z_caught C hQ (hh n' v hv) hKn1 hW' (hM'.tr hm) (hE.tr hM' hx) hS1 (hL.ext hm hx) hce hcv hcl
/-- a call out of the law, which catches nothing: nothing may be thrown -/
theorem z_invVL_ok {pc index k n : Nat} {y : MethodName} {bytes : ByteArray} {maxL : Nat} {rt : Option FieldType} {rm : Room} {Cn : String} {T : u_T} {N : Nat} {ty : Nat → FieldType} {sp : ZSp} {kk : ZP} (C : zCx X cc own ret F Lo cx sx) (hKF : ∀ n S, ¬ X.K (.inr n) S) (hM : zMet X.l y bytes maxL rt rm 0 0 sp) (hrm : rm.cells = 1 ∧ rm.slots = 6) (hR : rm.frames + 1 ≤ F ∧ 8 + (maxL + 11) + rm.locals ≤ Lo) (hcx : 1 ≤ cx) (hsx : 6 ≤ sx)
    (hw : zcall own index y bytes maxL rt n) (hinst : Cond.instanceMethod y ∈ wG) (hsel : Cond.selects Cn y y ∈ wG) (hK : zKl k Cn T N ty) (hd : decode cc pc = .ok (.invokevirtual index, 3)) (hk : ZOK X (pc + 3) kk) : ZOK X pc (z_invV k n sp kk) := by
  intro L st S ad H locs ls hP hW hM' hE hS hL hl
  have hP1 : (match ztake (n + 1) st [] with
    | some (.inr (.inr (some q)) :: as, st') => bif Nat.beq q.1 k && (Nat.ble st'.length 4 && as.all zc1b) then sp (.inr (.inr (some q)) :: as) S (zcont kk L st' X.K) else False
    | _ => False) := hP
  cases hz : ztake (n + 1) st [] with
  | none => rw [hz] at hP1; exact False.elim hP1
  | some z =>
    rw [hz] at hP1
    obtain ⟨as0, st'⟩ := z
    rcases as0 with _ | ⟨x | x | _ | ⟨a, i⟩, as⟩ <;> try exact False.elim hP1
    have hP2 : (bif Nat.beq a k && (Nat.ble st'.length 4 && as.all zc1b) then sp (zr a i :: as) S (zcont kk L st' X.K) else False) := hP1
    cases hq : Nat.beq a k && (Nat.ble st'.length 4 && as.all zc1b) with
    | false => rw [hq] at hP2; exact False.elim hP2
    | true =>
      rw [hq] at hP2
      obtain ⟨g1, g2⟩ := (Bool.and_eq_true _ _).mp hq
      obtain ⟨g3, g4⟩ := (Bool.and_eq_true _ _).mp g2
      have ha : a = k := Nat.eq_of_beq_eq_true g1
      obtain ⟨hlen, hlas, hlv, hlst, hmap⟩ := ztake_v (ad := ad) hz hl
      subst ha
      have hrun := z_runV (mc := 0) (ms := 0) (pc := pc) (ls := ls) (rest := st'.map (zc ad)) C hM hrm hR hcx hsx hw hinst hsel hK hlv hP2 hW hS hlas (zc1_of g4) hlen hL.1 (zsum8 g3) hd
      rw [hmap]
      exact z_afterC hrun (fun S' h => h) (fun v S' h => h) hk hM' hE hS hL hlst (fun n' S' ad' H1 locs1 q ce hn1 hn3 hKn hW' hm hx hS1 hce hcv hcl => (hKF _ _ hKn).elim)
theorem z_invSW_ok {pc index n mc ms : Nat} {y : MethodName} {bytes : ByteArray} {maxL : Nat} {rt : Option FieldType} {hh : List (Nat × Nat × Nat × Nat)} {rm : Room} {sp : ZSp} {kk : ZP} (C : zCx X cc own ret F Lo cx sx) (hKF : ∀ n S, ¬ X.K (.inr n) S) (hM : zMetW X.l y bytes maxL rt hh rm mc ms sp) (hrm : rm.cells = mc + 1 ∧ rm.slots = ms + 6) (hR : rm.frames + 1 ≤ F ∧ 8 + (maxL + 11) + rm.locals ≤ Lo) (hcx : mc + 1 ≤ cx) (hsx : ms + 6 ≤ sx)
    (hw : zcallW own index y bytes maxL rt hh n) (hst : Cond.static y ∈ wG) (hd : decode cc pc = .ok (.invokestatic index, 3)) (hk : ZOK (zXc X (X.ce + mc) (X.sl + ms)) (pc + 3) kk) : ZOK X pc (z_invS n sp kk) := by
  intro L st S ad H locs ls hP hW hM' hE hS hL hl
  have hP1 : (match ztake n st [] with
    | some (as, st') => bif Nat.ble st'.length 4 && as.all zc1b then sp as S (zcont kk L st' X.K) else False
    | none => False) := hP
  cases hz : ztake n st [] with
  | none => rw [hz] at hP1; exact False.elim hP1
  | some z =>
    rw [hz] at hP1
    obtain ⟨as, st'⟩ := z
    have hP2 : (bif Nat.ble st'.length 4 && as.all zc1b then sp as S (zcont kk L st' X.K) else False) := hP1
    cases hq : Nat.ble st'.length 4 && as.all zc1b with
    | false => rw [hq] at hP2; exact False.elim hP2
    | true =>
      rw [hq] at hP2
      obtain ⟨g3, g4⟩ := (Bool.and_eq_true _ _).mp hq
      obtain ⟨hlen, hlas, hlst, hmap⟩ := ztake_s (ad := ad) hz hl
      have hrun := z_runSW (pc := pc) (ls := ls) (rest := st'.map (zc ad)) C hM hrm hR hcx hsx hw hst hP2 hW hS hlas (zc1_of g4) hlen hL.1 (zsum8 g3) hd
      rw [hmap]
      exact z_afterC hrun (fun S' h => h) (fun v S' h => h) hk hM' hE hS hL hlst (fun n' S' ad' H1 locs1 q ce hn1 hn3 hKn hW' hm hx hS1 hce hcv hcl => (hKF _ _ hKn).elim)
/-- i2l; lastore -/
def z_lastI (kk : ZP) : ZP := fun L st S K => match st with
  | .inl x :: .inl i :: .inr (.inr (some q)) :: st => bif Nat.beq q.1 24 then vp_in i 1 ∧ kk L st (zup S 24 q.2 i.toNatClampNeg x) K else False
  | _ => False
theorem z_lastI_ok {pc : Nat} {kk : ZP} (C : zCx X cc own ret F Lo cx sx) (d0 : decode cc pc = .ok (.i2l, 1)) (d1 : decode cc (pc + 1) = .ok (.lastore, 1)) (hk : ZOK X (pc + 2) kk) : ZOK X pc (z_lastI kk) := by
  intro L st S ad H locs ls hP hW hM hE hS hL hl
  rcases st with _ | ⟨v | v, _ | ⟨y | y, _ | ⟨x | x | _ | ⟨a, i⟩, st⟩⟩⟩ <;> try exact False.elim hP
  have hP2 : (bif Nat.beq a 24 then vp_in y 1 ∧ kk L st (zup S 24 i y.toNatClampNeg v) X.K else False) := hP
  cases hq : Nat.beq a 24 with
  | false => rw [hq] at hP2; exact False.elim hP2
  | true =>
    rw [hq] at hP2
    obtain ⟨hin, hP3⟩ := hP2
    have ha : a = 24 := Nat.eq_of_beq_eq_true hq
    subst ha
    have hlv : zlv S 24 i := hl.2.2.1
    have h1 := hW.at (by decide) hlv
    refine lv_i2l C.hx C.hb d0 rfl ?_
    refine W.last C.hx C.hb h1 ((C.hE.2.1.2 8 _ rfl).1 1 (fun j => .long (S 24 i j).toInt64)) (fun q => by cases q) (by show ¬ (y < 0 ∨ (arrV _ _ _).slots.size ≤ _); rw [arrV_size]; exact hin) rfl rfl d1 fun H1 e z oq => ?_
    refine zast_ok (k := 24) (i := i) (pc := pc + 1) (by decide) (by decide) hk hlv hP3 hW hM hE hS hL hl.2.2.2 ?_ z oq y.toNatClampNeg
    show H1[ad 24 i]? = some (vp_cell (X.g.2.1 8) (1, .inr (.inl (fun j => (zup S 24 i y.toNatClampNeg v 24 i j).toInt64))))
    rw [e, zup_upd]
    show some ((vp_cell (X.g.2.1 8) (1, .inr (.inl (fun j => (S 24 i j).toInt64)))).setSlot _ _) = _
    rw [vp_cell_l, vp_cell_l, arrV_store]
    congr 2
    funext q
    by_cases hq : q = y.toNatClampNeg
    · subst hq
      simp [updV, upd]
    · simp [updV, upd, hq]
def z_lald (kk : ZP) : ZP := fun L st S K => match st with
  | .inl i :: .inr (.inr (some q)) :: st => bif Nat.beq q.1 24 then vp_in i 1 ∧ kk L (.inr (.inl (S 24 q.2 i.toNatClampNeg).toInt64) :: st) S K else False
  | _ => False
theorem z_lald_ok {pc : Nat} {kk : ZP} (C : zCx X cc own ret F Lo cx sx) (hd : decode cc pc = .ok (.laload, 1)) (hk : ZOK X (pc + 1) kk) : ZOK X pc (z_lald kk) := by
  intro L st S ad H locs ls hP hW hM hE hS hL hl
  rcases st with _ | ⟨v | v, _ | ⟨x | x | _ | ⟨a, i⟩, st⟩⟩ <;> try exact False.elim hP
  have hP2 : (bif Nat.beq a 24 then vp_in v 1 ∧ kk L (.inr (.inl (S 24 i v.toNatClampNeg).toInt64) :: st) S X.K else False) := hP
  cases hq : Nat.beq a 24 with
  | false => rw [hq] at hP2; exact False.elim hP2
  | true =>
    rw [hq] at hP2
    obtain ⟨hin, hP3⟩ := hP2
    have ha : a = 24 := Nat.eq_of_beq_eq_true hq
    subst ha
    have h1 := hW.at (by decide) (show zlv S 24 i from hl.2.1)
    exact va_lald C.hx C.hb C.hE.2.1 (zP1 h1) 0 8 rfl rfl hin hd (hk L (.inr (.inl (S 24 i v.toNatClampNeg).toInt64) :: st) S ad H locs ls hP3 hW hM hE hS hL ⟨trivial, hl.2.2⟩)
/-- the script: at the address b -/
def zscr (X : ZX) (b Len : Nat) (xs : Nat → Int32) : Prop := va_X b Len xs X.s X.s.heap ∧ b < X.s.heap.size ∧ ¬ zAA X.g b ∧ X.ad 26 0 = b
def z_sald (xs : Nat → Int32) (Len : Nat) (kk : ZP) : ZP := fun L st S K => match st with
  | .inl i :: .inr (.inr (some q)) :: st => bif Nat.beq q.1 26 && Nat.beq q.2 0 then vp_in i Len ∧ kk L (.inl (xs i.toNatClampNeg) :: st) S K else False
  | _ => False
theorem z_sald_ok {pc b Len : Nat} {xs : Nat → Int32} {kk : ZP} (C : zCx X cc own ret F Lo cx sx) (hs : zscr X b Len xs) (hd : decode cc pc = .ok (.iaload, 1)) (hk : ZOK X (pc + 1) kk) : ZOK X pc (z_sald xs Len kk) := by
  intro L st S ad H locs ls hP hW hM hE hS hL hl
  rcases st with _ | ⟨v | v, _ | ⟨x | x | _ | ⟨a, i⟩, st⟩⟩ <;> try exact False.elim hP
  have hP2 : (bif Nat.beq a 26 && Nat.beq i 0 then vp_in v Len ∧ kk L (.inl (xs v.toNatClampNeg) :: st) S X.K else False) := hP
  cases hq : Nat.beq a 26 && Nat.beq i 0 with
  | false => rw [hq] at hP2; exact False.elim hP2
  | true =>
    rw [hq] at hP2
    obtain ⟨hin, hP3⟩ := hP2
    obtain ⟨ha, hi⟩ := (Bool.and_eq_true _ _).mp hq
    have ha : a = 26 := Nat.eq_of_beq_eq_true ha
    have hi : i = 0 := Nat.eq_of_beq_eq_true hi
    subst ha; subst hi
    have hb9 : ad 26 0 = b := (hE 26 0 rfl).trans hs.2.2.2
    show zGo X H locs (F0 X.m pc ls (.int v :: .ref (ad 26 0) :: st.map (zc ad)))
    rw [hb9]
    exact va_sld C.hx C.hb hs.1 hs.2.1 hs.2.2.1 hS hin hd (hk L (.inl (xs v.toNatClampNeg) :: st) S ad H locs ls hP3 hW hM hE hS hL ⟨trivial, hl.2.2⟩)
def z_slen (Len : Nat) (kk : ZP) : ZP := fun L st S K => match st with
  | .inr (.inr (some q)) :: st => bif Nat.beq q.1 26 && Nat.beq q.2 0 then kk L (.inl (nI Len) :: st) S K else False
  | _ => False
theorem z_slen_ok {pc b Len : Nat} {xs : Nat → Int32} {kk : ZP} (C : zCx X cc own ret F Lo cx sx) (hs : zscr X b Len xs) (hd : decode cc pc = .ok (.arraylength, 1)) (hk : ZOK X (pc + 1) kk) : ZOK X pc (z_slen Len kk) := by
  intro L st S ad H locs ls hP hW hM hE hS hL hl
  rcases st with _ | ⟨x | x | _ | ⟨a, i⟩, st⟩ <;> try exact False.elim hP
  have hP2 : (bif Nat.beq a 26 && Nat.beq i 0 then kk L (.inl (nI Len) :: st) S X.K else False) := hP
  cases hq : Nat.beq a 26 && Nat.beq i 0 with
  | false => rw [hq] at hP2; exact False.elim hP2
  | true =>
    rw [hq] at hP2
    obtain ⟨ha, hi⟩ := (Bool.and_eq_true _ _).mp hq
    have ha : a = 26 := Nat.eq_of_beq_eq_true ha
    have hi : i = 0 := Nat.eq_of_beq_eq_true hi
    subst ha; subst hi
    have hb9 : ad 26 0 = b := (hE 26 0 rfl).trans hs.2.2.2
    show zGo X H locs (F0 X.m pc ls (.ref (ad 26 0) :: st.map (zc ad)))
    rw [hb9]
    exact va_slen C.hx C.hb hs.1 hs.2.1 hs.2.2.1 hS hd (hk L (.inl (nI Len) :: st) S ad H locs ls hP2 hW hM hE hS hL ⟨trivial, hl.2⟩)
theorem zOK_widen {pc a b : Nat} {P : ZP} (h1 : X.ce ≤ a) (h2 : X.sl ≤ b) (h : ZOK (zXc X a b) pc P) : ZOK X pc P := fun L st S ad H locs ls hP hW hM hE hS hL hl => W.widen h1 h2 (h L st S ad H locs ls hP hW hM hE hS hL hl)
theorem zMetW_of {mc ms : Nat} {l : Launch} {y : MethodName} {bytes : ByteArray} {maxL : Nat} {ret : Option FieldType} {hh : List (Nat × Nat × Nat × Nat)} {rm : Room} (hl : l.stackTraces = false) (hy : plainName y.cls = true) (hyL : y.cls = "PointsbookLaw") (hrm : rm.cells = mc + 1 ∧ rm.slots = ms + 6) {P : ZP} (body : ∀ X : ZX, zCx X bytes y.cls ret rm.frames rm.locals (mc + 1) (ms + 6) → X.nL = maxL → X.ce = 0 ∧ X.sl = 0 ∧ X.Q = zEndP X.b X.g X.ad X.S0 X.K X.a X.s mc ms → X.c.exceptionTable.toList = tableOf hh → ZOK X 0 P) :
    zMetW l y bytes maxL ret hh rm mc ms (fun as S K => as.length ≤ maxL ∧ zsp maxL P as S K) := by
  intro g ad S K as hsp
  refine MetFree.of_bodyS (code := bytes) (maxLocals := maxL) (ret := ret) hy ?_ ?_
  · intro args s m h hn
    obtain ⟨m9, meth, c, hn9, h1, h2, h3, h4, -, h5, h6, -⟩ := Cond.codeWith_spec (atoms_spec (ws := Cond.codeWith y bytes maxL ret hh :: wG) h _ List.mem_cons_self)
    cases hn.symm.trans hn9
    exact ⟨meth, c, h1, h2, h3, h4, h5, h6⟩
  · intro p e s m args below meth c s₁ B hml hP _
    have hh0 : s₁.heap = s.heap := by rw [B.state]; rfl
    obtain ⟨hargs, hE, hW, hlv, h1⟩ := hP
    have hts := atoms_spec (ws := Cond.codeWith y bytes maxL ret hh :: wG) B.pre
    have htab := vx_table (x := y) B (hts _ List.mem_cons_self)
    have hY := Stand.of_body B
    have hR : (headSpec (Cond.codeWith y bytes maxL ret hh :: wG) rm).room = rm := rfl
    rw [hR] at hY
    have C : zCx (p, l, e, rm, s, m, args, below, meth, c, g, S, ad, K, 0, 0, maxL, zEndP below g ad S K args s mc ms) bytes y.cls ret rm.frames rm.locals (mc + 1) (ms + 6) := ⟨B.exec, B.bytes, hml, fun w hw => hts w (List.mem_cons_of_mem _ hw), findClass_of_methodNamed B.named, B.notSynchronized, B.returns, hl, Or.inl hyL, hE, fun t h => zEnd_mono (Nat.zero_le _) (Nat.zero_le _) t h, Nat.le_refl _, Nat.le_refl _, Nat.le_of_eq ((Nat.zero_add _).trans hrm.1.symm), Nat.le_of_eq ((Nat.zero_add _).trans hrm.2.symm)⟩
    obtain ⟨t, a1, o, b1, b2, b3⟩ := zX_go (as := as) (body _ C rfl ⟨rfl, rfl, rfl⟩ htab) rfl hsp.2 hsp.1 hW h1 hlv hh0 hY
    refine ⟨t, o, ?_, b1, b2, b3⟩
    rw [hargs]
    exact a1
end ZL
end
section
/-! calls out of the law, with a free end -/
def z_invVm (k n : Nat) (sp : ZSp) (kk : ZP) : ZP := fun L st S K => match ztake (n + 1) st [] with
  | some (.inr (.inr (some q)) :: as, st') => bif Nat.beq q.1 k && (Nat.ble st'.length 4 && as.all zc1b) then ∃ K' : ZK, sp (.inr (.inr (some q)) :: as) S K' ∧ ∀ o S', K' o S' → zcont kk L st' K o S' else False
  | _ => False
def z_invSm (n : Nat) (sp : ZSp) (kk : ZP) : ZP := fun L st S K => match ztake n st [] with
  | some (as, st') => bif Nat.ble st'.length 4 && as.all zc1b then ∃ K' : ZK, sp as S K' ∧ ∀ o S', K' o S' → zcont kk L st' K o S' else False
  | none => False
section ZM
variable {X : ZX} {cc : ByteArray} {own : String} {ret : Option FieldType} {F Lo cx sx : Nat}
/-- a call out of the law, which catches nothing: nothing may be thrown -/
theorem z_invVLm_ok {pc index k n : Nat} {y : MethodName} {bytes : ByteArray} {maxL : Nat} {rt : Option FieldType} {rm : Room} {Cn : String} {T : u_T} {N : Nat} {ty : Nat → FieldType} {sp : ZSp} {kk : ZP} (C : zCx X cc own ret F Lo cx sx) (hKF : ∀ n S, ¬ X.K (.inr n) S) (hM : zMet X.l y bytes maxL rt rm 0 0 sp) (hrm : rm.cells = 1 ∧ rm.slots = 6) (hR : rm.frames + 1 ≤ F ∧ 8 + (maxL + 11) + rm.locals ≤ Lo) (hcx : 1 ≤ cx) (hsx : 6 ≤ sx)
    (hw : zcall own index y bytes maxL rt n) (hinst : Cond.instanceMethod y ∈ wG) (hsel : Cond.selects Cn y y ∈ wG) (hK : zKl k Cn T N ty) (hd : decode cc pc = .ok (.invokevirtual index, 3)) (hk : ZOK X (pc + 3) kk) : ZOK X pc (z_invVm k n sp kk) := by
  intro L st S ad H locs ls hP hW hM' hE hS hL hl
  have hP1 : (match ztake (n + 1) st [] with
    | some (.inr (.inr (some q)) :: as, st') => bif Nat.beq q.1 k && (Nat.ble st'.length 4 && as.all zc1b) then ∃ K' : ZK, sp (.inr (.inr (some q)) :: as) S K' ∧ ∀ o S', K' o S' → zcont kk L st' X.K o S' else False
    | _ => False) := hP
  cases hz : ztake (n + 1) st [] with
  | none => rw [hz] at hP1; exact False.elim hP1
  | some z =>
    rw [hz] at hP1
    obtain ⟨as0, st'⟩ := z
    rcases as0 with _ | ⟨x | x | _ | ⟨a, i⟩, as⟩ <;> try exact False.elim hP1
    have hP2 : (bif Nat.beq a k && (Nat.ble st'.length 4 && as.all zc1b) then ∃ K' : ZK, sp (zr a i :: as) S K' ∧ ∀ o S', K' o S' → zcont kk L st' X.K o S' else False) := hP1
    cases hq : Nat.beq a k && (Nat.ble st'.length 4 && as.all zc1b) with
    | false => rw [hq] at hP2; exact False.elim hP2
    | true =>
      rw [hq, cond_true] at hP2
      obtain ⟨K', hP3, hcvt⟩ := hP2
      obtain ⟨g1, g2⟩ := (Bool.and_eq_true _ _).mp hq
      obtain ⟨g3, g4⟩ := (Bool.and_eq_true _ _).mp g2
      have ha : a = k := Nat.eq_of_beq_eq_true g1
      obtain ⟨hlen, hlas, hlv, hlst, hmap⟩ := ztake_v (ad := ad) hz hl
      subst ha
      have hrun := z_runV (mc := 0) (ms := 0) (pc := pc) (ls := ls) (rest := st'.map (zc ad)) C hM hrm hR hcx hsx hw hinst hsel hK hlv hP3 hW hS hlas (zc1_of g4) hlen hL.1 (zsum8 g3) hd
      rw [hmap]
      exact z_afterC hrun (fun S' h => hcvt _ _ h) (fun v S' h => hcvt _ _ h) hk hM' hE hS hL hlst (fun n' S' ad' H1 locs1 q ce hn1 hn3 hKn hW' hm hx hS1 hce hcv hcl => (hKF _ _ (hcvt _ _ hKn)).elim)
theorem z_invSWm_ok {pc index n mc ms : Nat} {y : MethodName} {bytes : ByteArray} {maxL : Nat} {rt : Option FieldType} {hh : List (Nat × Nat × Nat × Nat)} {rm : Room} {sp : ZSp} {kk : ZP} (C : zCx X cc own ret F Lo cx sx) (hKF : ∀ n S, ¬ X.K (.inr n) S) (hM : zMetW X.l y bytes maxL rt hh rm mc ms sp) (hrm : rm.cells = mc + 1 ∧ rm.slots = ms + 6) (hR : rm.frames + 1 ≤ F ∧ 8 + (maxL + 11) + rm.locals ≤ Lo) (hcx : mc + 1 ≤ cx) (hsx : ms + 6 ≤ sx)
    (hw : zcallW own index y bytes maxL rt hh n) (hst : Cond.static y ∈ wG) (hd : decode cc pc = .ok (.invokestatic index, 3)) (hk : ZOK (zXc X (X.ce + mc) (X.sl + ms)) (pc + 3) kk) : ZOK X pc (z_invSm n sp kk) := by
  intro L st S ad H locs ls hP hW hM' hE hS hL hl
  have hP1 : (match ztake n st [] with
    | some (as, st') => bif Nat.ble st'.length 4 && as.all zc1b then ∃ K' : ZK, sp as S K' ∧ ∀ o S', K' o S' → zcont kk L st' X.K o S' else False
    | none => False) := hP
  cases hz : ztake n st [] with
  | none => rw [hz] at hP1; exact False.elim hP1
  | some z =>
    rw [hz] at hP1
    obtain ⟨as, st'⟩ := z
    have hP2 : (bif Nat.ble st'.length 4 && as.all zc1b then ∃ K' : ZK, sp as S K' ∧ ∀ o S', K' o S' → zcont kk L st' X.K o S' else False) := hP1
    cases hq : Nat.ble st'.length 4 && as.all zc1b with
    | false => rw [hq] at hP2; exact False.elim hP2
    | true =>
      rw [hq, cond_true] at hP2
      obtain ⟨K', hP3, hcvt⟩ := hP2
      obtain ⟨g3, g4⟩ := (Bool.and_eq_true _ _).mp hq
      obtain ⟨hlen, hlas, hlst, hmap⟩ := ztake_s (ad := ad) hz hl
      have hrun := z_runSW (pc := pc) (ls := ls) (rest := st'.map (zc ad)) C hM hrm hR hcx hsx hw hst hP3 hW hS hlas (zc1_of g4) hlen hL.1 (zsum8 g3) hd
      rw [hmap]
      exact z_afterC hrun (fun S' h => hcvt _ _ h) (fun v S' h => hcvt _ _ h) hk hM' hE hS hL hlst (fun n' S' ad' H1 locs1 q ce hn1 hn3 hKn hW' hm hx hS1 hce hcv hcl => (hKF _ _ (hcvt _ _ hKn)).elim)
end ZM
end
section
/-! what makes things: the grown state -/
def zgrow (k n cf : Nat) (sub : Nat → Nat → Bool) (G : Nat → Int32) (S : ZS) : ZS := fun k' i f => if k' = k ∧ i = n then G f else if k' = 7 ∧ i = 0 ∧ f = cf then nI (n + 1) else if sub k' i = true then 0 else S k' i f
def zFD (n : Nat) (a : Int32) (f : Nat) : Int32 := match f with
  | 0 => nI n
  | 1 => a
  | _ => 0
def zFS (n d : Nat) (f : Nat) : Int32 := match f with
  | 0 => nI n
  | 1 => nI d
  | _ => 0
def zFF (d : Nat) (good quota : Int32) (f : Nat) : Int32 := match f with
  | 0 => nI d
  | 1 => good
  | 2 => quota
  | _ => 0
def zFP (n : Nat) (kd : Int32) (j : Nat) (f : Nat) : Int32 := match f with
  | 0 => nI n
  | 1 => kd
  | 2 => nI j
  | 3 => nI j
  | 4 => 100
  | 5 => -1
  | _ => 0
def zsubD (n k i : Nat) : Bool := Nat.beq k 9 && Nat.beq i n
def zsubP (n k i : Nat) : Bool := Nat.beq k 10 && Nat.beq i n
def zsubS (n k i : Nat) : Bool := Nat.beq k 5 && (Nat.ble (6 * n) i && Nat.ble i (6 * n + 5))
def zgrD (S : ZS) (a : Int32) : ZS := zgrow 0 (nD S) 8 (zsubD (nD S)) (zFD (nD S) a) S
def zgrS (S : ZS) (d : Nat) : ZS := zgrow 6 (nS S) 9 (zsubS (nS S)) (zFS (nS S) d) S
def zgrF (S : ZS) (d : Nat) (good quota : Int32) : ZS := zgrow 1 (nF S) 10 (fun _ _ => false) (zFF d good quota) S
def zgrP (S : ZS) (kd : Int32) (j : Nat) : ZS := zgrow 3 (nP S) 7 (zsubP (nP S)) (zFP (nP S) kd j) S
def z_newP (kk : ZP) : ZP := fun L st S K => match znth L 0, znth L 1, znth L 3, st with
  | some (.inr (.inr (some a))), some (.inl kd), some (.inr (.inr (some q))), [] => bif Nat.beq a.1 7 && (Nat.beq a.2 0 && Nat.beq q.1 6) then vp_in (S 7 0 7) 20 ∧ kk L [] (zgrP S kd q.2) K else False
  | _, _, _, _ => False
def z_newD (kk : ZP) : ZP := fun L st S K => match znth L 0, znth L 2, st with
  | some (.inr (.inr (some a))), some (.inr (.inr none)), [] => bif Nat.beq a.1 7 && Nat.beq a.2 0 then vp_in (S 7 0 8) 6 ∧ kk L [] (zgrD S (-1)) K else False
  | some (.inr (.inr (some a))), some (.inr (.inr (some q))), [] => bif Nat.beq a.1 7 && (Nat.beq a.2 0 && Nat.beq q.1 0) then vp_in (S 7 0 8) 6 ∧ kk L [] (zgrD S (nI q.2)) K else False
  | _, _, _ => False
def z_newS (kk : ZP) : ZP := fun L st S K => match znth L 0, znth L 2, st with
  | some (.inr (.inr (some a))), some (.inr (.inr (some q))), [] => bif Nat.beq a.1 7 && (Nat.beq a.2 0 && Nat.beq q.1 0) then vp_in (S 7 0 9) 6 ∧ kk L [] (zgrS S q.2) K else False
  | _, _, _ => False
def z_newF (kk : ZP) : ZP := fun L st S K => match znth L 0, znth L 2, znth L 3, znth L 4, st with
  | some (.inr (.inr (some a))), some (.inl gd), some (.inl qt), some (.inr (.inr (some q))), [] => bif Nat.beq a.1 7 && (Nat.beq a.2 0 && Nat.beq q.1 0) then vp_in (S 7 0 10) 6 ∧ kk L [] (zgrF S q.2 gd qt) K else False
  | _, _, _, _, _ => False
theorem zCx.c {X : ZX} {cc : ByteArray} {own : String} {ret : Option FieldType} {F Lo cx sx a b cx' sx' : Nat} (C : zCx X cc own ret F Lo cx sx) (hq : ∀ t, zEndP X.b X.g X.ad X.S0 X.K X.a X.s a b t → X.Q t) (h1 : a + cx' ≤ X.ce + cx) (h2 : b + sx' ≤ X.sl + sx) : zCx (zXc X a b) cc own ret F Lo cx' sx' :=
  ⟨C.hx, C.hb, C.hml, C.hw, C.hown, C.hlk, C.hr, C.htr, C.2.2.2.2.2.2.2.2.1, C.hE, hq, C.hF, C.hLo, Nat.le_trans h1 C.hce, Nat.le_trans h2 C.hsl⟩
theorem zQ_of {X : ZX} {mc ms : Nat} (h : X.Q = zEndP X.b X.g X.ad X.S0 X.K X.a X.s mc ms) {a b : Nat} (h1 : a ≤ mc) (h2 : b ≤ ms) : ∀ t, zEndP X.b X.g X.ad X.S0 X.K X.a X.s a b t → X.Q t := fun t g => by
  rw [h]
  exact zEnd_mono h1 h2 t g
end
section
/-! making things: raw rows, and what a constructor promises -/
def zB (p : Program) (s : State) (m : MethodId) (args : Array Value) (c : Code) (cc : ByteArray) (own : String) (nL : Nat) (g : ZG) (A : Nat → Prop) : Prop :=
  p.tables.exec = Jvm.exec ∧ c.code = cc ∧ c.maxLocals = nL ∧ (∀ w ∈ wG, w.before args s = true) ∧ s.vm.findClass own = some m.cls ∧ zE g s ∧ (∀ q, s.heap.size ≤ q → A q) ∧ ∀ q, A q → zAA g q
section ZN
variable {p : Program} {l : Launch} {e : Env} {R : Room} {s : State} {m : MethodId} {args : Array Value} {below : List Frame} {meth : Method} {c : Code} {H : Heap} {locs : List Loc} {cells slots : Nat} {Q : State → Prop}
variable {cc : ByteArray} {own : String} {nL : Nat} {g : ZG} {A : Nat → Prop} {pc : Nat} {ls : Array Slot} {rest : List Value} {ws : va_W}
theorem zB.hx (B : zB p s m args c cc own nL g A) : p.tables.exec = Jvm.exec := B.1
theorem zB.hb (B : zB p s m args c cc own nL g A) : c.code = cc := B.2.1
theorem zB.hml (B : zB p s m args c cc own nL g A) : c.maxLocals = nL := B.2.2.1
theorem zB.hw (B : zB p s m args c cc own nL g A) : ∀ w ∈ wG, w.before args s = true := B.2.2.2.1
theorem zB.hown (B : zB p s m args c cc own nL g A) : s.vm.findClass own = some m.cls := B.2.2.2.2.1
theorem zB.hE (B : zB p s m args c cc own nL g A) : zE g s := B.2.2.2.2.2.1
theorem zB.hA (B : zB p s m args c cc own nL g A) : ∀ q, s.heap.size ≤ q → A q := B.2.2.2.2.2.2.1
theorem zB.hg (B : zB p s m args c cc own nL g A) : ∀ q, A q → zAA g q := B.2.2.2.2.2.2.2
theorem zcls {U : State} {cA cB : ClassId} {ty : FieldType} (h : ∀ (cA : ClassId), va_RA U cA ty → U.vm.findClass ("[" ++ ty.toString) = some cA) (h1 : va_RA U cA ty) (h2 : va_RA U cB ty) : cA = cB := Option.some.inj ((h _ h1).symm.trans (h _ h2))
theorem zcls_o {U : State} {cA : ClassId} {C : String} (h : va_RA U cA (.object C)) : U.vm.findClass ("[" ++ (FieldType.object C).toString) = some cA := by
  obtain ⟨_, _, _, _, _, h4⟩ := h
  exact h4
theorem zc_newT {atype : ArrayType} {ty : FieldType} {k : Nat} {a0 : vp_A} {n : Int32} {N' : Nat} (B : zB p s m args c cc own nL g A) (hw9 : Cond.arrayClass ty ∈ wG) (hty : newarray.typeOf atype = ty) (hk : ∀ cA : Nat → ClassId, (zty cA)[k]? = some (cA k, ty)) (hra : ∀ (cA : ClassId), va_RA s cA ty → s.vm.findClass ("[" ++ ty.toString) = some cA) (ha : ∀ cA : ClassId, vp_cell cA a0 = arrV cA N' (fun _ => defaultValue ty))
    (hP : va_P g.1 vwCl ws H) (hD : va_D A ws) (hS : va_S A s.heap H locs) (hn : ¬ n < 0) (hN : n.toNatClampNeg = N') (hb9 : N' * componentBytes ty ≤ 536870912) (hcells : cells + 1 ≤ R.cells) (hslots : slots + N' ≤ R.slots) (hdg : decode cc pc = .ok (.newarray atype, 2))
    (kk : ∀ (q : Nat) (H1 : Heap), va_P g.1 vwCl (ws ++ [(q, .inl (g.2.1 k, a0))]) H1 → va_D A (ws ++ [(q, .inl (g.2.1 k, a0))]) → va_S A s.heap H1 locs → W p l e R s m args below meth c H1 locs (cells + 1) (slots + N') Q (F0 m (pc + 2) ls (.ref q :: rest))) : W p l e R s m args below meth c H locs cells slots Q (F0 m pc ls (.int n :: rest)) := by
  refine va_newa B.hx B.hb (atype := atype) (by rw [hty]; exact B.hw _ hw9) hty B.hE.2.1 hP hD hS B.hA ha hn hN hb9 hcells hslots hdg (fun q cA H1 hK hP hD hS => ?_)
  have e : cA = g.2.1 k := zcls hra (hK.2 9 (cA, ty) rfl).2 (B.hE.2.1.2 k _ (hk _)).2
  subst e
  exact kk q H1 hP hD hS
theorem zc_newq {C : String} {k idx : Nat} {n : Int32} {N' : Nat} (B : zB p s m args c cc own nL g A) (hC : C ∈ zao) (hcl : Cond.classLink own idx C ∈ wG) (hk : ∀ cA : Nat → ClassId, (zty cA)[k]? = some (cA k, .object C))
    (hP : va_P g.1 vwCl ws H) (hD : va_D A ws) (hS : va_S A s.heap H locs) (hn : ¬ n < 0) (hN : n.toNatClampNeg = N') (hb9 : N' * 4 ≤ 536870912) (hcells : cells + 1 ≤ R.cells) (hslots : slots + N' ≤ R.slots) (hdg : decode cc pc = .ok (.anewarray idx, 3))
    (kk : ∀ (q : Nat) (H1 : Heap), va_P g.1 vwCl (ws ++ [(q, .inl (g.2.1 k, N', .inr (.inr (.inr (.inr (fun _ => none))))))]) H1 → va_D A (ws ++ [(q, .inl (g.2.1 k, N', .inr (.inr (.inr (.inr (fun _ => none))))))]) → va_S A s.heap H1 locs → W p l e R s m args below meth c H1 locs (cells + 1) (slots + N') Q (F0 m (pc + 3) ls (.ref q :: rest))) : W p l e R s m args below meth c H locs cells slots Q (F0 m pc ls (.int n :: rest)) := by
  refine va_newq B.hx B.hb B.hown (B.hw _ hcl) (B.hE.1.2 C hC) B.hE.2.1 hP hD hS B.hA hn hN hb9 hcells hslots hdg (fun q cA H1 hK hP hD hS => ?_)
  have e : cA = g.2.1 k := zcls (fun _ h => zcls_o h) (hK.2 9 (cA, .object C) rfl).2 (B.hE.2.1.2 k _ (hk _)).2
  subst e
  exact kk q H1 hP hD hS
theorem zc_put {ci o f N idx : Nat} {Cn : String} {T : u_T} {ty : Nat → FieldType} {fs : List Value} {v : Value} {ft : FieldType} (B : zB p s m args c cc own nL g A) (hin : meth.name = "<init>") (hK : zKl ci Cn T N ty) (hf : f < N) (hlink : Cond.fieldLink own idx Cn (T f).2.1 (T f).2.2.1 ∈ wG) (href : (T f).1 = Cn) (hoc : Cn = own) (hft : parseFieldDescriptor (T f).2.2.1 = some ft) (hnar : narrow ft v = v) (hfit : fits ft v = true) (hl : fs.length = N)
    (hP : va_P g.1 vwCl ((o, .inr (ci, fs)) :: ws) H) (hD : va_D A ((o, .inr (ci, fs)) :: ws)) (hS : va_S A s.heap H locs) (hdg : decode cc pc = .ok (.putfield idx, 3))
    (kk : ∀ (H1 : Heap) (locs1 : List Loc), va_P g.1 vwCl ((o, .inr (ci, fs.set f v)) :: ws) H1 → va_D A ((o, .inr (ci, fs.set f v)) :: ws) → va_S A s.heap H1 locs1 → (fs.set f v).length = N → W p l e R s m args below meth c H1 locs1 cells slots Q (F0 m (pc + 3) ls rest)) : W p l e R s m args below meth c H locs cells slots Q (F0 m pc ls (v :: .ref o :: rest)) := by
  obtain ⟨h1, h2, h3, h4, h5, h6⟩ := hK
  have hlen : (fs.set f v).length = N := by rw [List.length_set]; exact hl
  cases hfin : (T f).2.2.2 with
  | false => exact va_put (D := g.1) (ci := ci) (v := v) (ty := ft) (C := Cn) (T := T) (N := N) B.hx B.hb B.hw h2 ty h3 h4 B.hown B.hE.2.1 hP hD hS 0 rfl h1 f hf (B.hw _ hlink) (fun x hx => by rw [← href]; exact hx) hfin hft hnar hfit (by rw [hl]; exact hf) hdg (fun H1 locs1 a b d => kk H1 locs1 a b d hlen)
  | true => exact va_putF (D := g.1) (ci := ci) (v := v) (ty := ft) (C := Cn) (T := T) (N := N) B.hx B.hb B.hw h2 ty h3 h4 B.hown B.hE.2.1 hP hD hS 0 rfl h1 f hf (B.hw _ hlink) (fun x hx => by rw [← href]; exact hx) hfin hin (href.trans hoc) hft hnar hfit (by rw [hl]; exact hf) hdg (fun H1 locs1 a b d => kk H1 locs1 a b d hlen)
theorem zc_obj {o idx : Nat} (B : zB p s m args c cc own nL g A) (hR : 1 ≤ R.frames ∧ 12 ≤ R.locals) (hsz : ls.size = nL) (hw1 : Cond.methodLink own idx objectInit ∈ wG) (hw2 : Cond.instanceMethod objectInit ∈ wG) (hw3 : Cond.code objectInit ⟨#[0xb1]⟩ 1 none ∈ wG) (hdg : decode cc pc = .ok (.invokespecial idx, 3))
    (kk : W p l e R s m args below meth c H locs cells slots Q (F0 m (pc + 3) ls [])) : W p l e R s m args below meth c H locs cells slots Q (F0 m pc ls [.ref o]) := by
  refine W.objInit B.hx B.hb B.hown (B.hw _ hw1) (B.hw _ hw2) (B.hw _ hw3) rfl (hsz.trans B.hml.symm) rfl hdg hR.1 hR.2 ?_
  exact W.eq (g2 := F0 m (pc + 3) ls []) rfl kk
theorem zr_new {ci N idx : Nat} {Cn : String} {T : u_T} {ty : Nat → FieldType} {fs : List Value} (hx : p.tables.exec = Jvm.exec) (hb : c.code = cc) (hw : ∀ w ∈ wG, w.before args s = true) (hown : s.vm.findClass own = some m.cls) (hE : zE g s) (hK : zKl ci Cn T N ty) (hcl : Cond.classLink own idx Cn ∈ wG) (hin : Cond.instantiable Cn N ∈ wG) (hini : Cond.initialized Cn ∈ wG) (hfs : ∀ j, j < N → defaultValue (ty j) = vp_V fs j) (hcells : cells + 1 ≤ R.cells) (hslots : slots + N ≤ R.slots) (hdg : decode cc pc = .ok (.new idx, 3))
    (kk : ∀ H1 : Heap, va_at g.1 vwCl (H.size, .inr (ci, fs)) H1 → H1.size = H.size + 1 → (∀ q, q < H.size → H1[q]? = H[q]?) → W p l e R s m args below meth c H1 locs (cells + 1) (slots + N) Q (F0 m (pc + 3) ls (.ref H.size :: rest))) : W p l e R s m args below meth c H locs cells slots Q (F0 m pc ls rest) := by
  obtain ⟨h1, h2, h3, h4, h5, h6⟩ := hK
  have hKn := hE.2.1.1 ci _ h1
  refine W.newcK hx hb hown (hw _ hcl) (hw _ hin) (hw _ hini) rfl hdg hcells hslots hKn.2.1 rfl fun H1 kC hkC e1 z1 o1 => ?_
  exact kk H1 ⟨_, h1, (u_born ty hw h2 hKn hkC e1 h3).to hfs⟩ z1 o1
theorem zr_ast {ci t0 v a n : Nat} {vs : List Value} {r : vw_C} {f : Nat → Option Nat} {i : Int32} (hx : p.tables.exec = Jvm.exec) (hb : c.code = cc) (hE : zE g s) (ha : va_at g.1 vwCl (a, .inl (g.2.1 t0, n, .inr (.inr (.inr (.inr f))))) H) (ht : (zty g.2.1)[t0]? = some (g.2.1 t0, .object r.1)) (hv : va_at g.1 vwCl (v, .inr (ci, vs)) H) (hc : vwCl[ci]? = some r) (hin : vp_in i n) (hdg : decode cc pc = .ok (.aastore, 1))
    (kk : ∀ (H1 : Heap) (j : Nat), va_at g.1 vwCl (a, .inl (g.2.1 t0, n, .inr (.inr (.inr (.inr (va_up f i.toNatClampNeg (some v))))))) H1 → H1.size = H.size → (∀ q : Nat, q ≠ a → H1[q]? = H[q]?) → W p l e R s m args below meth c H1 (locs ++ [⟨a, j⟩]) cells slots Q (F0 m (pc + 1) ls rest)) : W p l e R s m args below meth c H locs cells slots Q (F0 m pc ls (.ref v :: .int i :: .ref a :: rest)) := by
  have hK := hE.2.1
  have hlt : i.toNatClampNeg < n := Nat.not_le.mp fun q => hin (Or.inr q)
  have h0 : ¬ i < 0 := fun q => hin (Or.inl q)
  obtain ⟨r', hr', cellV, g1, g2, g3, -⟩ := hv
  have hcls := (hK.1 ci r hc).2
  obtain ⟨kA, comp, k1, k2, k3, -⟩ := (hK.2 t0 _ ht).2
  have hcomp : comp = g.1.1 ci := Option.some.inj (k3.symm.trans hcls.1)
  subst hcomp
  obtain ⟨kC, hkC, -⟩ := hcls.2
  refine W.aast hx hb ha (fun q h => by cases h) (fun h => by cases h) k1 k2 rfl hkC ⟨h0, by show _ < (arrV _ _ _).slots.size; rw [arrV_size]; exact hlt⟩ g1 (fun q h => by rw [g3] at h; cases h) (by rw [g2]; exact hkC) (by rw [g2]; exact va_assign hcls) rfl rfl hdg fun H1 e z oq => ?_
  refine kk H1 _ ?_ z oq
  show H1[a]? = some (vp_cell _ _)
  rw [e]
  rw [vp_cell_q, vp_cell_q, arrV_store]
  congr 2
  funext q
  by_cases hq : q = i.toNatClampNeg
  · subst hq
    simp [updV, va_up, va_rf]
  · simp [updV, va_up, hq]
/-- a constructor's promise: of the blank thing and the values it makes the cells w1 -/
def zMk (l : Launch) (y : MethodName) (bytes : ByteArray) (maxL : Nat) (rm : Room) (mc ms : Nat) (g : ZG) (As : List Value) (ci : Nat) (fs : List Value) (w1 : Nat → List Nat → va_W) : Prop :=
  ∀ (o sz : Nat), zAA g o → Met l y (Cond.code y bytes maxL none :: wG) rm (va_Pc (.ref o :: As) (fun U => U.heap.size = sz ∧ va_P g.1 vwCl [(o, .inr (ci, fs))] U.heap ∧ zE g U)) (va_Qv (fun _ : List Nat => True) (fun qs t => va_P g.1 vwCl (w1 o qs) t.heap ∧ va_D (va_A [(o, .inr (ci, fs))] sz) (w1 o qs)) (va_A [(o, .inr (ci, fs))] sz)) mc ms (va_A [(o, .inr (ci, fs))] sz)
theorem va_D1 {A : Nat → Prop} {q : Nat × va_E} (h : A q.1) : va_D A [q] := by
  refine ⟨fun i j p r hi hj _ => ?_, fun k r hk => ?_⟩
  · have h1 : i < 1 := (List.getElem?_eq_some_iff.mp hi).1
    have h2 : j < 1 := (List.getElem?_eq_some_iff.mp hj).1
    omega
  · have h1 : k < 1 := (List.getElem?_eq_some_iff.mp hk).1
    cases (show k = 0 by omega)
    cases hk
    exact h
theorem zMk_of {y : MethodName} {bytes : ByteArray} {maxL mc ms : Nat} {rm : Room} {As : List Value} {ci : Nat} {fs : List Value} {w1 : Nat → List Nat → va_W} (hy : plainName y.cls = true) (hnm : y.name = "<init>") (hsl : ∀ o, (lg_sl (.ref o :: As)).length ≤ maxL)
    (body : ∀ (o : Nat) (p : Program) (e : Env) (s : State) (m : MethodId) (args : Array Value) (below : List Frame) (meth : Method) (c : Code) (A : Nat → Prop) (ls : Array Slot), zB p s m args c bytes y.cls maxL g A → meth.name = "<init>" → meth.sig.returnType = none → meth.locks = false → va_P g.1 vwCl [(o, .inr (ci, fs))] s.heap → va_D A [(o, .inr (ci, fs))] → va_S A s.heap s.heap [] → lv_has ls maxL (lv_args 0 (.ref o :: As)) →
      W p l e rm s m args below meth c s.heap [] 0 0 (MQ below (va_Qv (fun _ : List Nat => True) (fun qs t => va_P g.1 vwCl (w1 o qs) t.heap ∧ va_D A (w1 o qs)) A) args s mc ms A) (F0 m 0 ls [])) : zMk l y bytes maxL rm mc ms g As ci fs w1 := by
  intro o sz ho
  refine Met.ofW (cc := bytes) (maxL := maxL) (ret := none) hy rfl ?_
  intro p e s m args below meth c s₁ B hml hv
  obtain ⟨rfl, hsz, hP, hE⟩ := hv
  subst hsz
  have hts := atoms_spec (ws := Cond.code y bytes maxL none :: wG) B.pre
  rw [lg_entry_eq]
  have hl := lv_entry (.ref o :: As) (n := maxL) (hsl o)
  generalize (lg_sl (.ref o :: As) ++ List.replicate (maxL - (lg_sl (.ref o :: As)).length) Slot.unset).toArray = ls at hl ⊢
  refine body o p e s m _ below meth c _ ls ⟨B.exec, B.bytes, hml, fun w hw => hts w (List.mem_cons_of_mem _ hw), findClass_of_methodNamed B.named, hE, fun q h => Or.inr h, fun q h => ?_⟩ ((name_of_methodNamed B.named B.method).1.trans hnm) B.returns B.notSynchronized hP (va_D1 (Or.inl ⟨0, _, rfl⟩)) va_S.rf hl
  rcases h with ⟨k, e9, h⟩ | h
  · have h1 : k < 1 := (List.getElem?_eq_some_iff.mp h).1
    cases (show k = 0 by omega)
    cases h
    exact ho
  · exact Nat.le_trans hE.1.1 h
theorem zc_vret {o : Nat} {w1 : Nat → List Nat → va_W} {locs : List Loc} (qs : List Nat) (B : zB p s m args c cc own nL g A) (hr : meth.sig.returnType = none) (hlk : meth.locks = false) (hP : va_P g.1 vwCl (w1 o qs) H) (hD : va_D A (w1 o qs)) (hS : va_S A s.heap H locs) (hdg : decode cc pc = .ok (.return_, 1)) :
    W p l e R s m args below meth c H locs cells slots (MQ below (va_Qv (fun _ : List Nat => True) (fun qs t => va_P g.1 vwCl (w1 o qs) t.heap ∧ va_D A (w1 o qs)) A) args s cells slots A) (F0 m pc ls []) :=
  W.vret B.hx B.hb hr (fun t ht hW => ⟨⟨qs, rfl, trivial, by rw [ht]; exact hP, hD⟩, hS.F ht⟩) hS.2.2 hdg hlk
/-- how a constructor is named: openly, or as a nest mate's own -/
def zlk (own : String) (index : Nat) (y : MethodName) : Prop := Cond.methodLink own index y ∈ wG ∨ ∃ host, Cond.methodLinkNest own index y host ∈ zxw
/-- a constructor is run -/
theorem zc_run {y : MethodName} {bytes : ByteArray} {maxL mc ms n index o : Nat} {rm : Room} {As : List Value} {ci : Nat} {fs : List Value} {w1 : Nat → List Nat → va_W} (B : zB p s m args c cc own nL g A) (hM : zMk l y bytes maxL rm mc ms g As ci fs w1) (hlk : zlk own index y) (hcode : Cond.code y bytes maxL none ∈ wG) (hini : Cond.initialized y.cls ∈ wG) (hinst : Cond.instanceMethod y ∈ wG) (hnm : y.name = "<init>")
    (hd : y.cls ≠ "java/lang/invoke/MethodHandle" ∧ y.cls ≠ "java/lang/invoke/VarHandle" ∧ (parseMethodDescriptor y.desc).map (fun d => d.parameters.length) = some n) (hn : As.length = n) (hrm : rm.cells = mc ∧ rm.slots = ms) (hR : rm.frames + 1 ≤ R.frames ∧ 8 + (maxL + 11) + rm.locals ≤ R.locals) (hcells : cells + mc ≤ R.cells) (hslots : slots + ms ≤ R.slots)
    (hPo : va_at g.1 vwCl (o, .inr (ci, fs)) H) (hS : va_S A s.heap H locs) (ho : A o) (hsz : ls.size = nL) (hcat : (rest.map fun v => v.category).sum ≤ 8) (hdg : decode cc pc = .ok (.invokespecial index, 3))
    (kk : ∀ (qs : List Nat) (H1 : Heap) (locs1 : List Loc), va_P g.1 vwCl (w1 o qs) H1 → va_D (va_A [(o, .inr (ci, fs))] H.size) (w1 o qs) → H.size ≤ H1.size → (∀ q, q < H.size → q ≠ o → H1[q]? = H[q]?) → va_S A s.heap H1 locs1 → W p l e R s m args below meth c H1 locs1 (cells + mc) (slots + ms) Q (F0 m (pc + 3) ls rest)) : W p l e R s m args below meth c H locs cells slots Q (F0 m pc ls (As.reverse ++ .ref o :: rest)) := by
  have hws : ∀ w ∈ (Cond.code y bytes maxL none :: wG), ∀ (a' : Array Value) (U : State), s.WarmedH U.vm → w.before a' U = true := fun w h a' U hW => by
    rcases List.mem_cons.mp h with rfl | h
    · exact word_at hW (wG_good hcode) (B.hw _ hcode)
    · exact word_at hW (wG_good h) (B.hw _ h)
  have hPre : PreS s H (va_Pc (.ref o :: As) (fun U => U.heap.size = H.size ∧ va_P g.1 vwCl [(o, .inr (ci, fs))] U.heap ∧ zE g U)) (.ref o :: As) := by
    refine ⟨fun a U g9 mk q => ?_, fun U hU hW => ⟨rfl, by rw [hU], by rw [hU]; exact zP1 hPo, ?_⟩⟩
    · obtain ⟨q0, q1, q2, q3⟩ := q
      exact ⟨q0, q1, q2, q3.calling⟩
    · exact B.hE.moved hW (by rw [hU]; exact hS.1) (fun q h1 h2 => by rw [hU]; exact hS.2.1 q h1 (fun h => h2 (B.hg _ h)))
  have hfree : ∀ q, va_A [(o, Sum.inr (ci, fs))] H.size q → A q := fun q h => by
    rcases h with ⟨k, e9, h⟩ | h
    · have h1 : k < 1 := (List.getElem?_eq_some_iff.mp h).1
      cases (show k = 0 by omega)
      cases h
      exact ho
    · exact B.hA _ (Nat.le_trans hS.1 h)
  have hrun : va_Run p l e R s m args below meth c H locs cells slots mc ms (F0 m pc ls (As.reverse ++ .ref o :: rest)) rest (va_Qv (fun _ : List Nat => True) (fun qs t => va_P g.1 vwCl (w1 o qs) t.heap ∧ va_D (va_A [(o, .inr (ci, fs))] H.size) (w1 o qs)) (va_A [(o, .inr (ci, fs))] H.size) (Value.ref o :: As).toArray) (va_A [(o, .inr (ci, fs))] H.size) := by
    rcases hlk with hlk | ⟨host, hlk⟩
    · exact va_runI (ws := Cond.code y bytes maxL none :: wG) (Ts := wG) (n := n) ⟨B.hx, B.hb, B.hml, B.hown, B.hw⟩ (hM o H.size (B.hg _ ho)) ⟨⟨hrm.1, hrm.2, hR.1, hR.2, hws, List.mem_cons_self, B.hw _ hcode, B.hw _ hini, ⟨hd.1, hd.2.1⟩, fun sig h => by have h2 := hd.2.2; rw [h] at h2; exact (Option.some.inj h2).symm, B.hw _ hlk⟩, hnm, B.hw _ hinst⟩ hPre rfl hn hsz rfl (lv_room hcat) hdg ⟨hcells, hslots⟩
    · exact va_runIN (ws := Cond.code y bytes maxL none :: wG) (Ts := wG) (n := n) (host := host) ⟨B.hx, B.hb, B.hml, B.hown, B.hw⟩ (hM o H.size (B.hg _ ho)) ⟨⟨⟨hrm.1, hrm.2, hR.1, hR.2, hws, List.mem_cons_self⟩, B.hw _ hcode, B.hw _ hini, ⟨hd.1, hd.2.1⟩, fun sig h => by have h2 := hd.2.2; rw [h] at h2; exact (Option.some.inj h2).symm, va_Nw.use rfl (B.hE.2.2.2.2.2.1 _ hlk)⟩, hnm, B.hw _ hinst⟩ hPre rfl hn hsz rfl (lv_room hcat) hdg ⟨hcells, hslots⟩
  refine va_callv hrun hS (fun q _ h => hfree q h) hfree (fun u t H1 locs1 ht hvm _ hB hz1 hk1 hS1 => ?_)
  obtain ⟨hP1, hD1⟩ := hB
  rw [ht] at hP1
  refine kk u H1 locs1 hP1 hD1 hz1 (fun q h1 h2 => hk1 q h1 (fun h => ?_)) hS1
  rcases h with ⟨k, e9, h⟩ | h
  · have h3 : k < 1 := (List.getElem?_eq_some_iff.mp h).1
    cases (show k = 0 by omega)
    cases h
    exact h2 rfl
  · omega
theorem va_D.app2 {A : Nat → Prop} {w1 w2 : va_W} (h1 : va_D A w1) (h2 : va_D A w2) (h : ∀ (i j : Nat) (p q : Nat × va_E), w1[i]? = some p → w2[j]? = some q → p.1 ≠ q.1) : va_D A (w1 ++ w2) := by
  refine ⟨fun i j p q hi hj e => ?_, fun k q hk => ?_⟩
  · by_cases a : i < w1.length
    · rw [List.getElem?_append_left a] at hi
      by_cases b : j < w1.length
      · rw [List.getElem?_append_left b] at hj
        exact h1.1 i j p q hi hj e
      · rw [List.getElem?_append_right (by omega)] at hj
        exact absurd e (h _ _ _ _ hi hj)
    · rw [List.getElem?_append_right (by omega)] at hi
      by_cases b : j < w1.length
      · rw [List.getElem?_append_left b] at hj
        exact absurd e.symm (h _ _ _ _ hj hi)
      · rw [List.getElem?_append_right (by omega)] at hj
        have := h2.1 _ _ p q hi hj e
        omega
  · by_cases a : k < w1.length
    · rw [List.getElem?_append_left a] at hk
      exact h1.2 k q hk
    · rw [List.getElem?_append_right (by omega)] at hk
      exact h2.2 _ q hk
/-- new; dup; the constructor, which takes no values -/
theorem zc_mk {y : MethodName} {bytes : ByteArray} {maxL mc ms index idx ci N : Nat} {rm : Room} {fs : List Value} {w1 : Nat → List Nat → va_W} {T : u_T} {ty : Nat → FieldType} (B : zB p s m args c cc own nL g A) (hK : zKl ci y.cls T N ty) (hcl : Cond.classLink own idx y.cls ∈ wG) (hins : Cond.instantiable y.cls N ∈ wG) (hfs : ∀ j, j < N → defaultValue (ty j) = vp_V fs j)
    (hM : zMk l y bytes maxL rm mc ms g [] ci fs w1) (hlk : zlk own index y) (hcode : Cond.code y bytes maxL none ∈ wG) (hini : Cond.initialized y.cls ∈ wG) (hinst : Cond.instanceMethod y ∈ wG) (hnm : y.name = "<init>")
    (hd : y.cls ≠ "java/lang/invoke/MethodHandle" ∧ y.cls ≠ "java/lang/invoke/VarHandle" ∧ (parseMethodDescriptor y.desc).map (fun d => d.parameters.length) = some 0) (hrm : rm.cells = mc ∧ rm.slots = ms) (hR : rm.frames + 1 ≤ R.frames ∧ 8 + (maxL + 11) + rm.locals ≤ R.locals) (hcells : cells + 1 + mc ≤ R.cells) (hslots : slots + N + ms ≤ R.slots)
    (hP : va_P g.1 vwCl ws H) (hD : va_D A ws) (hS : va_S A s.heap H locs) (hsz : ls.size = nL) (hcat : ((Value.ref 0 :: rest).map fun v => v.category).sum ≤ 8) (d0 : decode cc pc = .ok (.new idx, 3)) (d3 : decode cc (pc + 3) = .ok (.dup, 1)) (d4 : decode cc (pc + 4) = .ok (.invokespecial index, 3))
    (kk : ∀ (q : Nat) (qs : List Nat) (H1 : Heap) (locs1 : List Loc), va_P g.1 vwCl (ws ++ w1 q qs) H1 → va_D A (ws ++ w1 q qs) → va_S A s.heap H1 locs1 → W p l e R s m args below meth c H1 locs1 (cells + 1 + mc) (slots + N + ms) Q (F0 m (pc + 7) ls (.ref q :: rest))) : W p l e R s m args below meth c H locs cells slots Q (F0 m pc ls rest) := by
  refine zr_new B.hx B.hb B.hw B.hown B.hE hK hcl hins hini hfs (Nat.le_trans (Nat.le_add_right _ _) hcells) (Nat.le_trans (Nat.le_add_right _ _) hslots) d0 (fun H1 hat z1 o1 => ?_)
  refine lv_dup B.hx B.hb d3 rfl ?_
  have hS1 : va_S A s.heap H1 locs := ⟨Nat.le_trans hS.1 (by omega), fun q h1 h2 => (o1 q (Nat.lt_of_lt_of_le h1 hS.1)).trans (hS.2.1 q h1 h2), hS.2.2⟩
  refine zc_run (As := []) (rest := .ref H.size :: rest) B hM hlk hcode hini hinst hnm hd rfl hrm hR hcells hslots hat hS1 (B.hA _ hS.1) hsz hcat d4 (fun qs H2 locs2 hP2 hD2 z2 o2 hS2 => ?_)
  have hP1 : va_P g.1 vwCl ws H1 := hP.kept (fun k x hx => o1 _ (hP k x hx).lt)
  have hPk : va_P g.1 vwCl ws H2 := hP1.kept (fun k x hx => by
    have := (hP k x hx).lt
    exact o2 _ (by omega) (by omega))
  have hin : ∀ q, va_A [(H.size, Sum.inr (ci, fs))] H1.size q → H.size ≤ q := fun q h => by
    rcases h with ⟨k, e9, h⟩ | h
    · have h3 : k < 1 := (List.getElem?_eq_some_iff.mp h).1
      cases (show k = 0 by omega)
      cases h
      exact Nat.le_refl _
    · omega
  have hDA : va_D A (w1 H.size qs) := ⟨hD2.1, fun k q hk => B.hA _ (Nat.le_trans hS.1 (hin _ (hD2.2 k q hk)))⟩
  refine kk H.size qs H2 locs2 (hPk.app hP2) (hD.app2 hDA (fun i j p9 q9 hi hj e => ?_)) hS2
  have h1 := (hP i p9 hi).lt
  have h2 := hin _ (hD2.2 j q9 hj)
  omega
end ZN
end
section
/-! words of the tables -/
theorem zv_44 : Cond.initialized RX4 ∈ wG := zg 44 (by decide +kernel) (by decide +kernel)
theorem zv_45 : Cond.initialized RX2 ∈ wG := zg 45 (by decide +kernel) (by decide +kernel)
theorem zv_57 : Cond.initialized RX5 ∈ wG := zg 57 (by decide +kernel) (by decide +kernel)
theorem zv_64 : Cond.methodLink RX7 1 objectInit ∈ wG := zg 64 (by decide +kernel) (by decide +kernel)
theorem zv_65 : Cond.instanceMethod objectInit ∈ wG := zg 65 (by decide +kernel) (by decide +kernel)
theorem zv_66 : Cond.code objectInit ⟨#[0xb1]⟩ 1 none ∈ wG := zg 66 (by decide +kernel) (by decide +kernel)
theorem zv_67 : Cond.classLink RX7 9 RX2 ∈ wG := zg 67 (by decide +kernel) (by decide +kernel)
theorem zv_69 : Cond.classLink RX7 15 RX3 ∈ wG := zg 69 (by decide +kernel) (by decide +kernel)
theorem zv_71 : Cond.classLink RX7 21 RX0 ∈ wG := zg 71 (by decide +kernel) (by decide +kernel)
theorem zv_73 : Cond.classLink RX7 27 RX6 ∈ wG := zg 73 (by decide +kernel) (by decide +kernel)
theorem zv_75 : Cond.classLink RX7 33 RX1 ∈ wG := zg 75 (by decide +kernel) (by decide +kernel)
theorem zv_77 : Cond.classLink RX7 39 RX4 ∈ wG := zg 77 (by decide +kernel) (by decide +kernel)
theorem zv_78 : Cond.instantiable RX4 5 ∈ wG := zg 78 (by decide +kernel) (by decide +kernel)
theorem zv_80 : Cond.instanceMethod yX4_init ∈ wG := zg 80 (by decide +kernel) (by decide +kernel)
theorem zv_81 : Cond.code yX4_init cX4_init 1 none ∈ wG := zg 81 (by decide +kernel) (by decide +kernel)
theorem zv_82 : Cond.methodLink RX4 3 objectInit ∈ wG := zg 82 (by decide +kernel) (by decide +kernel)
theorem zv_83 : Cond.fieldLink RX4 9 "Pointsbook$Sales" "months" "[I" ∈ wG := zg 83 (by decide +kernel) (by decide +kernel)
theorem zv_84 : Cond.fieldLink RX4 15 "Pointsbook$Sales" "buyers" "[I" ∈ wG := zg 84 (by decide +kernel) (by decide +kernel)
theorem zv_85 : Cond.fieldLink RX4 18 "Pointsbook$Sales" "goodsSold" "[I" ∈ wG := zg 85 (by decide +kernel) (by decide +kernel)
theorem zv_86 : Cond.fieldLink RX4 21 "Pointsbook$Sales" "grams" "[I" ∈ wG := zg 86 (by decide +kernel) (by decide +kernel)
theorem zv_87 : Cond.fieldLink RX4 24 "Pointsbook$Sales" "count" "I" ∈ wG := zg 87 (by decide +kernel) (by decide +kernel)
theorem zv_99 : Cond.arrayClass .int ∈ wG := zg 99 (by decide +kernel) (by decide +kernel)
theorem zv_100 : Cond.instantiable RX2 5 ∈ wG := zg 100 (by decide +kernel) (by decide +kernel)
theorem zv_102 : Cond.instanceMethod yX2_init ∈ wG := zg 102 (by decide +kernel) (by decide +kernel)
theorem zv_103 : Cond.code yX2_init cX2_init 1 none ∈ wG := zg 103 (by decide +kernel) (by decide +kernel)
theorem zv_104 : Cond.methodLink RX2 3 objectInit ∈ wG := zg 104 (by decide +kernel) (by decide +kernel)
theorem zv_105 : Cond.fieldLink RX2 9 "Pointsbook$Good" "state" "I" ∈ wG := zg 105 (by decide +kernel) (by decide +kernel)
theorem zv_107 : Cond.fieldLink RX2 15 "Pointsbook$Good" "amount" "I" ∈ wG := zg 107 (by decide +kernel) (by decide +kernel)
theorem zv_109 : Cond.fieldLink RX2 18 "Pointsbook$Good" "energyNow" "I" ∈ wG := zg 109 (by decide +kernel) (by decide +kernel)
theorem zv_111 : Cond.fieldLink RX2 21 "Pointsbook$Good" "sold" "I" ∈ wG := zg 111 (by decide +kernel) (by decide +kernel)
theorem zv_113 : Cond.fieldLink RX2 24 "Pointsbook$Good" "onBlackMarket" "I" ∈ wG := zg 113 (by decide +kernel) (by decide +kernel)
theorem zv_126 : Cond.fieldLink RX7 11 "Pointsbook" "goods" "[LPointsbook$Good;" ∈ wG := zg 126 (by decide +kernel) (by decide +kernel)
theorem zv_127 : Cond.fieldLink RX7 17 "Pointsbook" "people" "[LPointsbook$Person;" ∈ wG := zg 127 (by decide +kernel) (by decide +kernel)
theorem zv_128 : Cond.fieldLink RX7 23 "Pointsbook" "depots" "[LPointsbook$Depot;" ∈ wG := zg 128 (by decide +kernel) (by decide +kernel)
theorem zv_129 : Cond.fieldLink RX7 29 "Pointsbook" "shops" "[LPointsbook$Shop;" ∈ wG := zg 129 (by decide +kernel) (by decide +kernel)
theorem zv_130 : Cond.fieldLink RX7 35 "Pointsbook" "farms" "[LPointsbook$Farm;" ∈ wG := zg 130 (by decide +kernel) (by decide +kernel)
theorem zv_131 : Cond.fieldLink RX7 42 "Pointsbook" "sales" "LPointsbook$Sales;" ∈ wG := zg 131 (by decide +kernel) (by decide +kernel)
theorem zv_132 : Cond.fieldLink RX7 46 "Pointsbook" "leastPoints" "[I" ∈ wG := zg 132 (by decide +kernel) (by decide +kernel)
theorem zv_133 : Cond.fieldLink RX7 50 "Pointsbook" "peopleCount" "I" ∈ wG := zg 133 (by decide +kernel) (by decide +kernel)
theorem zv_134 : Cond.fieldLink RX7 54 "Pointsbook" "depotCount" "I" ∈ wG := zg 134 (by decide +kernel) (by decide +kernel)
theorem zv_135 : Cond.fieldLink RX7 57 "Pointsbook" "shopCount" "I" ∈ wG := zg 135 (by decide +kernel) (by decide +kernel)
theorem zv_136 : Cond.fieldLink RX7 60 "Pointsbook" "farmCount" "I" ∈ wG := zg 136 (by decide +kernel) (by decide +kernel)
theorem zv_137 : Cond.fieldLink RX7 63 "Pointsbook" "pointsTold" "I" ∈ wG := zg 137 (by decide +kernel) (by decide +kernel)
theorem zv_138 : Cond.fieldLink RX7 66 "Pointsbook" "jumpTold" "I" ∈ wG := zg 138 (by decide +kernel) (by decide +kernel)
theorem zv_139 : Cond.fieldLink RX7 69 "Pointsbook" "monthNow" "I" ∈ wG := zg 139 (by decide +kernel) (by decide +kernel)
theorem zv_140 : Cond.fieldLink RX7 72 "Pointsbook" "visits" "I" ∈ wG := zg 140 (by decide +kernel) (by decide +kernel)
theorem zv_141 : Cond.fieldLink RX7 75 "Pointsbook" "gramsCame" "I" ∈ wG := zg 141 (by decide +kernel) (by decide +kernel)
theorem zv_142 : Cond.fieldLink RX7 78 "Pointsbook" "gramsEaten" "I" ∈ wG := zg 142 (by decide +kernel) (by decide +kernel)
theorem zv_143 : Cond.fieldLink RX7 81 "Pointsbook" "gramsLost" "I" ∈ wG := zg 143 (by decide +kernel) (by decide +kernel)
theorem zv_144 : Cond.fieldLink RX7 84 "Pointsbook" "centsPaid" "I" ∈ wG := zg 144 (by decide +kernel) (by decide +kernel)
theorem zv_362 : Cond.methodLink RX3 3 objectInit ∈ wG := zg 362 (by decide +kernel) (by decide +kernel)
theorem zv_363 : Cond.fieldLink RX3 35 "Pointsbook$Person" "number" "I" ∈ wG := zg 363 (by decide +kernel) (by decide +kernel)
theorem zv_365 : Cond.fieldLink RX3 38 "Pointsbook$Person" "kind" "I" ∈ wG := zg 365 (by decide +kernel) (by decide +kernel)
theorem zv_367 : Cond.fieldLink RX3 41 "Pointsbook$Person" "registered" "LPointsbook$Shop;" ∈ wG := zg 367 (by decide +kernel) (by decide +kernel)
theorem zv_369 : Cond.fieldLink RX3 45 "Pointsbook$Person" "next" "LPointsbook$Shop;" ∈ wG := zg 369 (by decide +kernel) (by decide +kernel)
theorem zv_371 : Cond.fieldLink RX3 9 "Pointsbook$Person" "health" "I" ∈ wG := zg 371 (by decide +kernel) (by decide +kernel)
theorem zv_373 : Cond.fieldLink RX3 15 "Pointsbook$Person" "name" "I" ∈ wG := zg 373 (by decide +kernel) (by decide +kernel)
theorem zv_375 : Cond.fieldLink RX3 18 "Pointsbook$Person" "bookStolen" "Z" ∈ wG := zg 375 (by decide +kernel) (by decide +kernel)
theorem zv_377 : Cond.fieldLink RX3 22 "Pointsbook$Person" "pointsGot" "I" ∈ wG := zg 377 (by decide +kernel) (by decide +kernel)
theorem zv_379 : Cond.fieldLink RX3 25 "Pointsbook$Person" "pointsGone" "I" ∈ wG := zg 379 (by decide +kernel) (by decide +kernel)
theorem zv_381 : Cond.fieldLink RX3 28 "Pointsbook$Person" "energyEaten" "I" ∈ wG := zg 381 (by decide +kernel) (by decide +kernel)
theorem zv_383 : Cond.fieldLink RX3 31 "Pointsbook$Person" "bought" "[I" ∈ wG := zg 383 (by decide +kernel) (by decide +kernel)
theorem zv_521 : Cond.methodLink RX0 3 objectInit ∈ wG := zg 521 (by decide +kernel) (by decide +kernel)
theorem zv_522 : Cond.fieldLink RX0 15 "Pointsbook$Depot" "number" "I" ∈ wG := zg 522 (by decide +kernel) (by decide +kernel)
theorem zv_524 : Cond.fieldLink RX0 19 "Pointsbook$Depot" "above" "LPointsbook$Depot;" ∈ wG := zg 524 (by decide +kernel) (by decide +kernel)
theorem zv_526 : Cond.fieldLink RX0 9 "Pointsbook$Depot" "grams" "[I" ∈ wG := zg 526 (by decide +kernel) (by decide +kernel)
theorem zv_546 : Cond.methodLink RX6 3 objectInit ∈ wG := zg 546 (by decide +kernel) (by decide +kernel)
theorem zv_547 : Cond.classLink RX6 9 RX5 ∈ wG := zg 547 (by decide +kernel) (by decide +kernel)
theorem zv_549 : Cond.instantiable RX5 6 ∈ wG := zg 549 (by decide +kernel) (by decide +kernel)
theorem zv_551 : Cond.instanceMethod yX5_init ∈ wG := zg 551 (by decide +kernel) (by decide +kernel)
theorem zv_552 : Cond.code yX5_init cX5_init 1 none ∈ wG := zg 552 (by decide +kernel) (by decide +kernel)
theorem zv_553 : Cond.methodLink RX5 1 objectInit ∈ wG := zg 553 (by decide +kernel) (by decide +kernel)
theorem zv_554 : Cond.fieldLink RX5 7 "Pointsbook$Shelf" "grams" "I" ∈ wG := zg 554 (by decide +kernel) (by decide +kernel)
theorem zv_556 : Cond.fieldLink RX5 13 "Pointsbook$Shelf" "coupons" "I" ∈ wG := zg 556 (by decide +kernel) (by decide +kernel)
theorem zv_558 : Cond.fieldLink RX5 16 "Pointsbook$Shelf" "owed" "I" ∈ wG := zg 558 (by decide +kernel) (by decide +kernel)
theorem zv_560 : Cond.fieldLink RX5 19 "Pointsbook$Shelf" "supplied" "I" ∈ wG := zg 560 (by decide +kernel) (by decide +kernel)
theorem zv_562 : Cond.fieldLink RX5 22 "Pointsbook$Shelf" "sold" "I" ∈ wG := zg 562 (by decide +kernel) (by decide +kernel)
theorem zv_564 : Cond.fieldLink RX5 25 "Pointsbook$Shelf" "forgedCoupons" "I" ∈ wG := zg 564 (by decide +kernel) (by decide +kernel)
theorem zv_579 : Cond.fieldLink RX6 17 "Pointsbook$Shop" "number" "I" ∈ wG := zg 579 (by decide +kernel) (by decide +kernel)
theorem zv_581 : Cond.fieldLink RX6 21 "Pointsbook$Shop" "source" "LPointsbook$Depot;" ∈ wG := zg 581 (by decide +kernel) (by decide +kernel)
theorem zv_583 : Cond.fieldLink RX6 11 "Pointsbook$Shop" "shelves" "[LPointsbook$Shelf;" ∈ wG := zg 583 (by decide +kernel) (by decide +kernel)
theorem zv_737 : Cond.methodLink RX1 1 objectInit ∈ wG := zg 737 (by decide +kernel) (by decide +kernel)
theorem zv_738 : Cond.fieldLink RX1 16 "Pointsbook$Farm" "target" "LPointsbook$Depot;" ∈ wG := zg 738 (by decide +kernel) (by decide +kernel)
theorem zv_740 : Cond.fieldLink RX1 20 "Pointsbook$Farm" "good" "I" ∈ wG := zg 740 (by decide +kernel) (by decide +kernel)
theorem zv_742 : Cond.fieldLink RX1 23 "Pointsbook$Farm" "quota" "I" ∈ wG := zg 742 (by decide +kernel) (by decide +kernel)
theorem zv_744 : Cond.fieldLink RX1 7 "Pointsbook$Farm" "delivered" "I" ∈ wG := zg 744 (by decide +kernel) (by decide +kernel)
theorem zv_746 : Cond.fieldLink RX1 13 "Pointsbook$Farm" "failures" "I" ∈ wG := zg 746 (by decide +kernel) (by decide +kernel)
theorem zv_857 : Cond.methodLink RX8 1 objectInit ∈ wG := zg 857 (by decide +kernel) (by decide +kernel)
theorem zv_859 : Cond.fieldLink RX8 7 "PointsbookModel" "points" "I" ∈ wG := zg 859 (by decide +kernel) (by decide +kernel)
theorem zv_860 : Cond.fieldLink RX8 13 "PointsbookModel" "jump" "I" ∈ wG := zg 860 (by decide +kernel) (by decide +kernel)
theorem zv_862 : Cond.fieldLink RX8 16 "PointsbookModel" "is" "[I" ∈ wG := zg 862 (by decide +kernel) (by decide +kernel)
theorem zv_863 : Cond.fieldLink RX8 20 "PointsbookModel" "ration" "[I" ∈ wG := zg 863 (by decide +kernel) (by decide +kernel)
theorem zv_864 : Cond.fieldLink RX8 23 "PointsbookModel" "price" "[I" ∈ wG := zg 864 (by decide +kernel) (by decide +kernel)
theorem zv_865 : Cond.fieldLink RX8 26 "PointsbookModel" "energy" "[I" ∈ wG := zg 865 (by decide +kernel) (by decide +kernel)
theorem zv_866 : Cond.fieldLink RX8 29 "PointsbookModel" "sold" "[I" ∈ wG := zg 866 (by decide +kernel) (by decide +kernel)
theorem zv_867 : Cond.fieldLink RX8 32 "PointsbookModel" "black" "[I" ∈ wG := zg 867 (by decide +kernel) (by decide +kernel)
theorem zv_869 : Cond.fieldLink RX8 35 "PointsbookModel" "kind" "[I" ∈ wG := zg 869 (by decide +kernel) (by decide +kernel)
theorem zv_870 : Cond.fieldLink RX8 38 "PointsbookModel" "shopOf" "[I" ∈ wG := zg 870 (by decide +kernel) (by decide +kernel)
theorem zv_871 : Cond.fieldLink RX8 41 "PointsbookModel" "goal" "[I" ∈ wG := zg 871 (by decide +kernel) (by decide +kernel)
theorem zv_872 : Cond.fieldLink RX8 44 "PointsbookModel" "health" "[I" ∈ wG := zg 872 (by decide +kernel) (by decide +kernel)
theorem zv_873 : Cond.fieldLink RX8 47 "PointsbookModel" "name" "[I" ∈ wG := zg 873 (by decide +kernel) (by decide +kernel)
theorem zv_874 : Cond.fieldLink RX8 50 "PointsbookModel" "got" "[I" ∈ wG := zg 874 (by decide +kernel) (by decide +kernel)
theorem zv_875 : Cond.fieldLink RX8 53 "PointsbookModel" "spent" "[I" ∈ wG := zg 875 (by decide +kernel) (by decide +kernel)
theorem zv_876 : Cond.fieldLink RX8 56 "PointsbookModel" "ate" "[I" ∈ wG := zg 876 (by decide +kernel) (by decide +kernel)
theorem zv_877 : Cond.fieldLink RX8 59 "PointsbookModel" "stolen" "[Z" ∈ wG := zg 877 (by decide +kernel) (by decide +kernel)
theorem zv_878 : Cond.fieldLink RX8 63 "PointsbookModel" "bought" "[I" ∈ wG := zg 878 (by decide +kernel) (by decide +kernel)
theorem zv_880 : Cond.fieldLink RX8 66 "PointsbookModel" "logWho" "[I" ∈ wG := zg 880 (by decide +kernel) (by decide +kernel)
theorem zv_881 : Cond.fieldLink RX8 69 "PointsbookModel" "logGood" "[I" ∈ wG := zg 881 (by decide +kernel) (by decide +kernel)
theorem zv_882 : Cond.fieldLink RX8 72 "PointsbookModel" "logGrams" "[I" ∈ wG := zg 882 (by decide +kernel) (by decide +kernel)
theorem zv_884 : Cond.fieldLink RX8 75 "PointsbookModel" "above" "[I" ∈ wG := zg 884 (by decide +kernel) (by decide +kernel)
theorem zv_885 : Cond.fieldLink RX8 78 "PointsbookModel" "depotHas" "[I" ∈ wG := zg 885 (by decide +kernel) (by decide +kernel)
theorem zv_887 : Cond.fieldLink RX8 81 "PointsbookModel" "depotOf" "[I" ∈ wG := zg 887 (by decide +kernel) (by decide +kernel)
theorem zv_888 : Cond.fieldLink RX8 84 "PointsbookModel" "shopHas" "[I" ∈ wG := zg 888 (by decide +kernel) (by decide +kernel)
theorem zv_889 : Cond.fieldLink RX8 87 "PointsbookModel" "coupons" "[I" ∈ wG := zg 889 (by decide +kernel) (by decide +kernel)
theorem zv_890 : Cond.fieldLink RX8 90 "PointsbookModel" "owes" "[I" ∈ wG := zg 890 (by decide +kernel) (by decide +kernel)
theorem zv_891 : Cond.fieldLink RX8 93 "PointsbookModel" "missing" "[I" ∈ wG := zg 891 (by decide +kernel) (by decide +kernel)
theorem zv_892 : Cond.fieldLink RX8 96 "PointsbookModel" "forged" "[I" ∈ wG := zg 892 (by decide +kernel) (by decide +kernel)
theorem zv_894 : Cond.fieldLink RX8 99 "PointsbookModel" "farmDepot" "[I" ∈ wG := zg 894 (by decide +kernel) (by decide +kernel)
theorem zv_895 : Cond.fieldLink RX8 102 "PointsbookModel" "farmGood" "[I" ∈ wG := zg 895 (by decide +kernel) (by decide +kernel)
theorem zv_896 : Cond.fieldLink RX8 105 "PointsbookModel" "quota" "[I" ∈ wG := zg 896 (by decide +kernel) (by decide +kernel)
theorem zv_897 : Cond.fieldLink RX8 108 "PointsbookModel" "delivered" "[I" ∈ wG := zg 897 (by decide +kernel) (by decide +kernel)
theorem zv_898 : Cond.fieldLink RX8 111 "PointsbookModel" "failed" "[I" ∈ wG := zg 898 (by decide +kernel) (by decide +kernel)
theorem zv_903 : Cond.fieldLink RX8 114 "PointsbookModel" "least" "[I" ∈ wG := zg 903 (by decide +kernel) (by decide +kernel)
theorem zv_1000 : Cond.arrayClass .boolean ∈ wG := zg 1000 (by decide +kernel) (by decide +kernel)
set_option maxRecDepth 20000 in
theorem zinX0 : ∀ w ∈ u_ws RX0 TX0 3, w ∈ wG := List.forall_mem_cons.mpr ⟨zg 528 (by decide +kernel) (by decide +kernel), List.forall_mem_cons.mpr ⟨zg 530 (by decide +kernel) (by decide +kernel), List.forall_mem_cons.mpr ⟨zg 532 (by decide +kernel) (by decide +kernel), fun _ h => (nomatch h)⟩⟩⟩
theorem zK0 : zKl 0 RX0 TX0 3 tyX0 := ⟨rfl, zinX0, tyX0_ok, nmX0, rfl, by decide⟩
set_option maxRecDepth 20000 in
theorem zinX1 : ∀ w ∈ u_ws RX1 TX1 5, w ∈ wG := List.forall_mem_cons.mpr ⟨zg 748 (by decide +kernel) (by decide +kernel), List.forall_mem_cons.mpr ⟨zg 750 (by decide +kernel) (by decide +kernel), List.forall_mem_cons.mpr ⟨zg 752 (by decide +kernel) (by decide +kernel), List.forall_mem_cons.mpr ⟨zg 754 (by decide +kernel) (by decide +kernel), List.forall_mem_cons.mpr ⟨zg 756 (by decide +kernel) (by decide +kernel), fun _ h => (nomatch h)⟩⟩⟩⟩⟩
theorem zK1 : zKl 1 RX1 TX1 5 tyX1 := ⟨rfl, zinX1, tyX1_ok, nmX1, rfl, by decide⟩
set_option maxRecDepth 20000 in
theorem zinX2 : ∀ w ∈ u_ws RX2 TX2 5, w ∈ wG := List.forall_mem_cons.mpr ⟨zg 115 (by decide +kernel) (by decide +kernel), List.forall_mem_cons.mpr ⟨zg 117 (by decide +kernel) (by decide +kernel), List.forall_mem_cons.mpr ⟨zg 119 (by decide +kernel) (by decide +kernel), List.forall_mem_cons.mpr ⟨zg 121 (by decide +kernel) (by decide +kernel), List.forall_mem_cons.mpr ⟨zg 123 (by decide +kernel) (by decide +kernel), fun _ h => (nomatch h)⟩⟩⟩⟩⟩
theorem zK2 : zKl 2 RX2 TX2 5 tyX2 := ⟨rfl, zinX2, tyX2_ok, nmX2, rfl, by decide⟩
set_option maxRecDepth 20000 in
theorem zinX3 : ∀ w ∈ u_ws RX3 TX3 11, w ∈ wG := List.forall_mem_cons.mpr ⟨zg 385 (by decide +kernel) (by decide +kernel), List.forall_mem_cons.mpr ⟨zg 387 (by decide +kernel) (by decide +kernel), List.forall_mem_cons.mpr ⟨zg 389 (by decide +kernel) (by decide +kernel), List.forall_mem_cons.mpr ⟨zg 391 (by decide +kernel) (by decide +kernel), List.forall_mem_cons.mpr ⟨zg 393 (by decide +kernel) (by decide +kernel), List.forall_mem_cons.mpr ⟨zg 395 (by decide +kernel) (by decide +kernel), List.forall_mem_cons.mpr ⟨zg 397 (by decide +kernel) (by decide +kernel), List.forall_mem_cons.mpr ⟨zg 399 (by decide +kernel) (by decide +kernel), List.forall_mem_cons.mpr ⟨zg 401 (by decide +kernel) (by decide +kernel), List.forall_mem_cons.mpr ⟨zg 403 (by decide +kernel) (by decide +kernel), List.forall_mem_cons.mpr ⟨zg 405 (by decide +kernel) (by decide +kernel), fun _ h => (nomatch h)⟩⟩⟩⟩⟩⟩⟩⟩⟩⟩⟩
theorem zK3 : zKl 3 RX3 TX3 11 tyX3 := ⟨rfl, zinX3, tyX3_ok, nmX3, rfl, by decide⟩
set_option maxRecDepth 20000 in
theorem zinX4 : ∀ w ∈ u_ws RX4 TX4 5, w ∈ wG := List.forall_mem_cons.mpr ⟨zg 88 (by decide +kernel) (by decide +kernel), List.forall_mem_cons.mpr ⟨zg 90 (by decide +kernel) (by decide +kernel), List.forall_mem_cons.mpr ⟨zg 92 (by decide +kernel) (by decide +kernel), List.forall_mem_cons.mpr ⟨zg 94 (by decide +kernel) (by decide +kernel), List.forall_mem_cons.mpr ⟨zg 96 (by decide +kernel) (by decide +kernel), fun _ h => (nomatch h)⟩⟩⟩⟩⟩
theorem zK4 : zKl 4 RX4 TX4 5 tyX4 := ⟨rfl, zinX4, tyX4_ok, nmX4, rfl, by decide⟩
set_option maxRecDepth 20000 in
theorem zinX5 : ∀ w ∈ u_ws RX5 TX5 6, w ∈ wG := List.forall_mem_cons.mpr ⟨zg 566 (by decide +kernel) (by decide +kernel), List.forall_mem_cons.mpr ⟨zg 568 (by decide +kernel) (by decide +kernel), List.forall_mem_cons.mpr ⟨zg 570 (by decide +kernel) (by decide +kernel), List.forall_mem_cons.mpr ⟨zg 572 (by decide +kernel) (by decide +kernel), List.forall_mem_cons.mpr ⟨zg 574 (by decide +kernel) (by decide +kernel), List.forall_mem_cons.mpr ⟨zg 576 (by decide +kernel) (by decide +kernel), fun _ h => (nomatch h)⟩⟩⟩⟩⟩⟩
theorem zK5 : zKl 5 RX5 TX5 6 tyX5 := ⟨rfl, zinX5, tyX5_ok, nmX5, rfl, by decide⟩
set_option maxRecDepth 20000 in
theorem zinX6 : ∀ w ∈ u_ws RX6 TX6 3, w ∈ wG := List.forall_mem_cons.mpr ⟨zg 585 (by decide +kernel) (by decide +kernel), List.forall_mem_cons.mpr ⟨zg 587 (by decide +kernel) (by decide +kernel), List.forall_mem_cons.mpr ⟨zg 589 (by decide +kernel) (by decide +kernel), fun _ h => (nomatch h)⟩⟩⟩
theorem zK6 : zKl 6 RX6 TX6 3 tyX6 := ⟨rfl, zinX6, tyX6_ok, nmX6, rfl, by decide⟩
set_option maxRecDepth 20000 in
theorem zinX7 : ∀ w ∈ u_ws RX7 TX7 19, w ∈ wG := List.forall_mem_cons.mpr ⟨zg 145 (by decide +kernel) (by decide +kernel), List.forall_mem_cons.mpr ⟨zg 147 (by decide +kernel) (by decide +kernel), List.forall_mem_cons.mpr ⟨zg 149 (by decide +kernel) (by decide +kernel), List.forall_mem_cons.mpr ⟨zg 151 (by decide +kernel) (by decide +kernel), List.forall_mem_cons.mpr ⟨zg 153 (by decide +kernel) (by decide +kernel), List.forall_mem_cons.mpr ⟨zg 155 (by decide +kernel) (by decide +kernel), List.forall_mem_cons.mpr ⟨zg 157 (by decide +kernel) (by decide +kernel), List.forall_mem_cons.mpr ⟨zg 159 (by decide +kernel) (by decide +kernel), List.forall_mem_cons.mpr ⟨zg 161 (by decide +kernel) (by decide +kernel), List.forall_mem_cons.mpr ⟨zg 163 (by decide +kernel) (by decide +kernel), List.forall_mem_cons.mpr ⟨zg 165 (by decide +kernel) (by decide +kernel), List.forall_mem_cons.mpr ⟨zg 167 (by decide +kernel) (by decide +kernel), List.forall_mem_cons.mpr ⟨zg 169 (by decide +kernel) (by decide +kernel), List.forall_mem_cons.mpr ⟨zg 171 (by decide +kernel) (by decide +kernel), List.forall_mem_cons.mpr ⟨zg 173 (by decide +kernel) (by decide +kernel), List.forall_mem_cons.mpr ⟨zg 175 (by decide +kernel) (by decide +kernel), List.forall_mem_cons.mpr ⟨zg 177 (by decide +kernel) (by decide +kernel), List.forall_mem_cons.mpr ⟨zg 179 (by decide +kernel) (by decide +kernel), List.forall_mem_cons.mpr ⟨zg 181 (by decide +kernel) (by decide +kernel), fun _ h => (nomatch h)⟩⟩⟩⟩⟩⟩⟩⟩⟩⟩⟩⟩⟩⟩⟩⟩⟩⟩⟩
theorem zK7 : zKl 7 RX7 TX7 19 tyX7 := ⟨rfl, zinX7, tyX7_ok, nmX7, rfl, by decide⟩
set_option maxRecDepth 20000 in
theorem zinX8 : ∀ w ∈ u_ws RX8 TX8 47, w ∈ wG := List.forall_mem_cons.mpr ⟨zg 905 (by decide +kernel) (by decide +kernel), List.forall_mem_cons.mpr ⟨zg 907 (by decide +kernel) (by decide +kernel), List.forall_mem_cons.mpr ⟨zg 909 (by decide +kernel) (by decide +kernel), List.forall_mem_cons.mpr ⟨zg 911 (by decide +kernel) (by decide +kernel), List.forall_mem_cons.mpr ⟨zg 913 (by decide +kernel) (by decide +kernel), List.forall_mem_cons.mpr ⟨zg 915 (by decide +kernel) (by decide +kernel), List.forall_mem_cons.mpr ⟨zg 917 (by decide +kernel) (by decide +kernel), List.forall_mem_cons.mpr ⟨zg 919 (by decide +kernel) (by decide +kernel), List.forall_mem_cons.mpr ⟨zg 921 (by decide +kernel) (by decide +kernel), List.forall_mem_cons.mpr ⟨zg 923 (by decide +kernel) (by decide +kernel), List.forall_mem_cons.mpr ⟨zg 925 (by decide +kernel) (by decide +kernel), List.forall_mem_cons.mpr ⟨zg 927 (by decide +kernel) (by decide +kernel), List.forall_mem_cons.mpr ⟨zg 929 (by decide +kernel) (by decide +kernel), List.forall_mem_cons.mpr ⟨zg 931 (by decide +kernel) (by decide +kernel), List.forall_mem_cons.mpr ⟨zg 933 (by decide +kernel) (by decide +kernel), List.forall_mem_cons.mpr ⟨zg 935 (by decide +kernel) (by decide +kernel), List.forall_mem_cons.mpr ⟨zg 937 (by decide +kernel) (by decide +kernel), List.forall_mem_cons.mpr ⟨zg 939 (by decide +kernel) (by decide +kernel), List.forall_mem_cons.mpr ⟨zg 941 (by decide +kernel) (by decide +kernel), List.forall_mem_cons.mpr ⟨zg 943 (by decide +kernel) (by decide +kernel), List.forall_mem_cons.mpr ⟨zg 945 (by decide +kernel) (by decide +kernel), List.forall_mem_cons.mpr ⟨zg 947 (by decide +kernel) (by decide +kernel), List.forall_mem_cons.mpr ⟨zg 949 (by decide +kernel) (by decide +kernel), List.forall_mem_cons.mpr ⟨zg 951 (by decide +kernel) (by decide +kernel), List.forall_mem_cons.mpr ⟨zg 953 (by decide +kernel) (by decide +kernel), List.forall_mem_cons.mpr ⟨zg 955 (by decide +kernel) (by decide +kernel), List.forall_mem_cons.mpr ⟨zg 957 (by decide +kernel) (by decide +kernel), List.forall_mem_cons.mpr ⟨zg 959 (by decide +kernel) (by decide +kernel), List.forall_mem_cons.mpr ⟨zg 961 (by decide +kernel) (by decide +kernel), List.forall_mem_cons.mpr ⟨zg 963 (by decide +kernel) (by decide +kernel), List.forall_mem_cons.mpr ⟨zg 965 (by decide +kernel) (by decide +kernel), List.forall_mem_cons.mpr ⟨zg 967 (by decide +kernel) (by decide +kernel), List.forall_mem_cons.mpr ⟨zg 969 (by decide +kernel) (by decide +kernel), List.forall_mem_cons.mpr ⟨zg 971 (by decide +kernel) (by decide +kernel), List.forall_mem_cons.mpr ⟨zg 973 (by decide +kernel) (by decide +kernel), List.forall_mem_cons.mpr ⟨zg 975 (by decide +kernel) (by decide +kernel), List.forall_mem_cons.mpr ⟨zg 977 (by decide +kernel) (by decide +kernel), List.forall_mem_cons.mpr ⟨zg 979 (by decide +kernel) (by decide +kernel), List.forall_mem_cons.mpr ⟨zg 981 (by decide +kernel) (by decide +kernel), List.forall_mem_cons.mpr ⟨zg 983 (by decide +kernel) (by decide +kernel), List.forall_mem_cons.mpr ⟨zg 985 (by decide +kernel) (by decide +kernel), List.forall_mem_cons.mpr ⟨zg 987 (by decide +kernel) (by decide +kernel), List.forall_mem_cons.mpr ⟨zg 989 (by decide +kernel) (by decide +kernel), List.forall_mem_cons.mpr ⟨zg 991 (by decide +kernel) (by decide +kernel), List.forall_mem_cons.mpr ⟨zg 993 (by decide +kernel) (by decide +kernel), List.forall_mem_cons.mpr ⟨zg 995 (by decide +kernel) (by decide +kernel), List.forall_mem_cons.mpr ⟨zg 997 (by decide +kernel) (by decide +kernel), fun _ h => (nomatch h)⟩⟩⟩⟩⟩⟩⟩⟩⟩⟩⟩⟩⟩⟩⟩⟩⟩⟩⟩⟩⟩⟩⟩⟩⟩⟩⟩⟩⟩⟩⟩⟩⟩⟩⟩⟩⟩⟩⟩⟩⟩⟩⟩⟩⟩⟩⟩
theorem zK8 : zKl 8 RX8 TX8 47 tyX8 := ⟨rfl, zinX8, tyX8_ok, nmX8, rfl, by decide⟩
end
section
theorem dX0_init_0 : decode cX0_init 0 = .ok (.aload_n 0, 1) := by decide +kernel
theorem dX0_init_1 : decode cX0_init 1 = .ok (.invokespecial 3, 3) := by decide +kernel
theorem dX0_init_4 : decode cX0_init 4 = .ok (.aload_n 0, 1) := by decide +kernel
theorem dX0_init_5 : decode cX0_init 5 = .ok (.bipush 6, 2) := by decide +kernel
theorem dX0_init_7 : decode cX0_init 7 = .ok (.newarray .int, 2) := by decide +kernel
theorem dX0_init_9 : decode cX0_init 9 = .ok (.putfield 9, 3) := by decide +kernel
theorem dX0_init_12 : decode cX0_init 12 = .ok (.aload_n 0, 1) := by decide +kernel
theorem dX0_init_13 : decode cX0_init 13 = .ok (.iload_n 1, 1) := by decide +kernel
theorem dX0_init_14 : decode cX0_init 14 = .ok (.putfield 15, 3) := by decide +kernel
theorem dX0_init_17 : decode cX0_init 17 = .ok (.aload_n 0, 1) := by decide +kernel
theorem dX0_init_18 : decode cX0_init 18 = .ok (.aload_n 2, 1) := by decide +kernel
theorem dX0_init_19 : decode cX0_init 19 = .ok (.putfield 19, 3) := by decide +kernel
theorem dX0_init_22 : decode cX0_init 22 = .ok (.return_, 1) := by decide +kernel
def w_X0 (g : ZG) (n : Int32) (x : Option Nat) (o : Nat) (qs : List Nat) : va_W := [(o, .inr (0, [.int n, va_rf x, .ref (qs.getD 0 0)])), ((qs.getD 0 0), .inl (g.2.1 0, (6, .inl (fun _ => 0))))]
set_option maxRecDepth 100000 in
set_option maxHeartbeats 4000000 in
theorem zmk_X0 (l : Launch) (g : ZG) (n : Int32) (x : Option Nat) : zMk l yX0_init cX0_init 3 { frames := 1, cells := 1, slots := 6, locals := 12 } 1 6 g [.int n, va_rf x] 0 [.int 0, .null, .null] (w_X0 g n x) := by
  rcases x with _ | x9
  · refine zMk_of (by decide +kernel) rfl (fun o => (Nat.le_of_ble_eq_true rfl)) (fun o p e s m args below meth c A ls B hin hr hlk hP hD hS hl => ?_)
    have hl : lv_has ls 3 [(0, .ref o), (1, .int n), (2, .null)] := hl
    refine lv_aload_n B.hx B.hb dX0_init_0 rfl (lv_at hl 0 rfl) ?_
    refine zc_obj B ⟨(Nat.le_of_ble_eq_true rfl), (Nat.le_of_ble_eq_true rfl)⟩ hl.1 zv_521 zv_65 zv_66 dX0_init_1 ?_
    refine lv_aload_n B.hx B.hb dX0_init_4 rfl (lv_at hl 0 rfl) ?_
    refine lv_bipush (v := 6) B.hx B.hb dX0_init_5 (by decide) ?_
    refine zc_newT (k := 0) (ty := .int) (a0 := (6, .inl (fun _ => 0))) (N' := 6) B zv_99 rfl (fun _ => rfl) (fun _ h => h) (fun _ => rfl) hP hD hS (by decide) rfl (Nat.le_of_ble_eq_true rfl) (Nat.le_of_ble_eq_true rfl) (Nat.le_of_ble_eq_true rfl) dX0_init_7 (fun q1 H hP hD hS => ?_)
    refine zc_put (f := 2) (ft := tyX0 2) B hin zK0 (by decide) zv_526 rfl rfl (tyX0_ok 2 (by decide)) rfl rfl rfl hP hD hS dX0_init_9 (fun H locs hP hD hS hfl => ?_)
    refine lv_aload_n B.hx B.hb dX0_init_12 rfl (lv_at hl 0 rfl) ?_
    refine lv_iload_n B.hx B.hb dX0_init_13 rfl (lv_at hl 1 rfl) ?_
    refine zc_put (f := 0) (ft := tyX0 0) B hin zK0 (by decide) zv_522 rfl rfl (tyX0_ok 0 (by decide)) rfl rfl hfl hP hD hS dX0_init_14 (fun H locs hP hD hS hfl => ?_)
    refine lv_aload_n B.hx B.hb dX0_init_17 rfl (lv_at hl 0 rfl) ?_
    refine lv_aload_nN B.hx B.hb dX0_init_18 rfl (lv_at hl 2 rfl) ?_
    refine zc_put (f := 1) (ft := tyX0 1) B hin zK0 (by decide) zv_524 rfl rfl (tyX0_ok 1 (by decide)) rfl rfl hfl hP hD hS dX0_init_19 (fun H locs hP hD hS hfl => ?_)
    exact zc_vret (w1 := w_X0 g n none) [q1] B hr hlk hP hD hS dX0_init_22
  · refine zMk_of (by decide +kernel) rfl (fun o => (Nat.le_of_ble_eq_true rfl)) (fun o p e s m args below meth c A ls B hin hr hlk hP hD hS hl => ?_)
    have hl : lv_has ls 3 [(0, .ref o), (1, .int n), (2, .ref x9)] := hl
    refine lv_aload_n B.hx B.hb dX0_init_0 rfl (lv_at hl 0 rfl) ?_
    refine zc_obj B ⟨(Nat.le_of_ble_eq_true rfl), (Nat.le_of_ble_eq_true rfl)⟩ hl.1 zv_521 zv_65 zv_66 dX0_init_1 ?_
    refine lv_aload_n B.hx B.hb dX0_init_4 rfl (lv_at hl 0 rfl) ?_
    refine lv_bipush (v := 6) B.hx B.hb dX0_init_5 (by decide) ?_
    refine zc_newT (k := 0) (ty := .int) (a0 := (6, .inl (fun _ => 0))) (N' := 6) B zv_99 rfl (fun _ => rfl) (fun _ h => h) (fun _ => rfl) hP hD hS (by decide) rfl (Nat.le_of_ble_eq_true rfl) (Nat.le_of_ble_eq_true rfl) (Nat.le_of_ble_eq_true rfl) dX0_init_7 (fun q1 H hP hD hS => ?_)
    refine zc_put (f := 2) (ft := tyX0 2) B hin zK0 (by decide) zv_526 rfl rfl (tyX0_ok 2 (by decide)) rfl rfl rfl hP hD hS dX0_init_9 (fun H locs hP hD hS hfl => ?_)
    refine lv_aload_n B.hx B.hb dX0_init_12 rfl (lv_at hl 0 rfl) ?_
    refine lv_iload_n B.hx B.hb dX0_init_13 rfl (lv_at hl 1 rfl) ?_
    refine zc_put (f := 0) (ft := tyX0 0) B hin zK0 (by decide) zv_522 rfl rfl (tyX0_ok 0 (by decide)) rfl rfl hfl hP hD hS dX0_init_14 (fun H locs hP hD hS hfl => ?_)
    refine lv_aload_n B.hx B.hb dX0_init_17 rfl (lv_at hl 0 rfl) ?_
    refine lv_aload_n B.hx B.hb dX0_init_18 rfl (lv_at hl 2 rfl) ?_
    refine zc_put (f := 1) (ft := tyX0 1) B hin zK0 (by decide) zv_524 rfl rfl (tyX0_ok 1 (by decide)) rfl rfl hfl hP hD hS dX0_init_19 (fun H locs hP hD hS hfl => ?_)
    exact zc_vret (w1 := w_X0 g n (some x9)) [q1] B hr hlk hP hD hS dX0_init_22
theorem dX1_init_0 : decode cX1_init 0 = .ok (.aload_n 0, 1) := by decide +kernel
theorem dX1_init_1 : decode cX1_init 1 = .ok (.invokespecial 1, 3) := by decide +kernel
theorem dX1_init_4 : decode cX1_init 4 = .ok (.aload_n 0, 1) := by decide +kernel
theorem dX1_init_5 : decode cX1_init 5 = .ok (.iconst 0, 1) := by decide +kernel
theorem dX1_init_6 : decode cX1_init 6 = .ok (.putfield 7, 3) := by decide +kernel
theorem dX1_init_9 : decode cX1_init 9 = .ok (.aload_n 0, 1) := by decide +kernel
theorem dX1_init_10 : decode cX1_init 10 = .ok (.iconst 0, 1) := by decide +kernel
theorem dX1_init_11 : decode cX1_init 11 = .ok (.putfield 13, 3) := by decide +kernel
theorem dX1_init_14 : decode cX1_init 14 = .ok (.aload_n 0, 1) := by decide +kernel
theorem dX1_init_15 : decode cX1_init 15 = .ok (.aload_n 1, 1) := by decide +kernel
theorem dX1_init_16 : decode cX1_init 16 = .ok (.putfield 16, 3) := by decide +kernel
theorem dX1_init_19 : decode cX1_init 19 = .ok (.aload_n 0, 1) := by decide +kernel
theorem dX1_init_20 : decode cX1_init 20 = .ok (.iload_n 2, 1) := by decide +kernel
theorem dX1_init_21 : decode cX1_init 21 = .ok (.putfield 20, 3) := by decide +kernel
theorem dX1_init_24 : decode cX1_init 24 = .ok (.aload_n 0, 1) := by decide +kernel
theorem dX1_init_25 : decode cX1_init 25 = .ok (.iload_n 3, 1) := by decide +kernel
theorem dX1_init_26 : decode cX1_init 26 = .ok (.putfield 23, 3) := by decide +kernel
theorem dX1_init_29 : decode cX1_init 29 = .ok (.return_, 1) := by decide +kernel
def w_X1 (g : ZG) (d : Nat) (gd : Int32) (qt : Int32) (o : Nat) (qs : List Nat) : va_W := [(o, .inr (1, [.ref d, .int gd, .int qt, .int 0, .int 0]))]
set_option maxRecDepth 100000 in
set_option maxHeartbeats 4000000 in
theorem zmk_X1 (l : Launch) (g : ZG) (d : Nat) (gd : Int32) (qt : Int32) : zMk l yX1_init cX1_init 4 { frames := 1, cells := 0, slots := 0, locals := 12 } 0 0 g [.ref d, .int gd, .int qt] 1 [.null, .int 0, .int 0, .int 0, .int 0] (w_X1 g d gd qt) := by
  refine zMk_of (by decide +kernel) rfl (fun o => (Nat.le_of_ble_eq_true rfl)) (fun o p e s m args below meth c A ls B hin hr hlk hP hD hS hl => ?_)
  have hl : lv_has ls 4 [(0, .ref o), (1, .ref d), (2, .int gd), (3, .int qt)] := hl
  refine lv_aload_n B.hx B.hb dX1_init_0 rfl (lv_at hl 0 rfl) ?_
  refine zc_obj B ⟨(Nat.le_of_ble_eq_true rfl), (Nat.le_of_ble_eq_true rfl)⟩ hl.1 zv_737 zv_65 zv_66 dX1_init_1 ?_
  refine lv_aload_n B.hx B.hb dX1_init_4 rfl (lv_at hl 0 rfl) ?_
  refine lv_iconst (v := 0) B.hx B.hb dX1_init_5 (by decide) ?_
  refine zc_put (f := 3) (ft := tyX1 3) B hin zK1 (by decide) zv_744 rfl rfl (tyX1_ok 3 (by decide)) rfl rfl rfl hP hD hS dX1_init_6 (fun H locs hP hD hS hfl => ?_)
  refine lv_aload_n B.hx B.hb dX1_init_9 rfl (lv_at hl 0 rfl) ?_
  refine lv_iconst (v := 0) B.hx B.hb dX1_init_10 (by decide) ?_
  refine zc_put (f := 4) (ft := tyX1 4) B hin zK1 (by decide) zv_746 rfl rfl (tyX1_ok 4 (by decide)) rfl rfl hfl hP hD hS dX1_init_11 (fun H locs hP hD hS hfl => ?_)
  refine lv_aload_n B.hx B.hb dX1_init_14 rfl (lv_at hl 0 rfl) ?_
  refine lv_aload_n B.hx B.hb dX1_init_15 rfl (lv_at hl 1 rfl) ?_
  refine zc_put (f := 0) (ft := tyX1 0) B hin zK1 (by decide) zv_738 rfl rfl (tyX1_ok 0 (by decide)) rfl rfl hfl hP hD hS dX1_init_16 (fun H locs hP hD hS hfl => ?_)
  refine lv_aload_n B.hx B.hb dX1_init_19 rfl (lv_at hl 0 rfl) ?_
  refine lv_iload_n B.hx B.hb dX1_init_20 rfl (lv_at hl 2 rfl) ?_
  refine zc_put (f := 1) (ft := tyX1 1) B hin zK1 (by decide) zv_740 rfl rfl (tyX1_ok 1 (by decide)) rfl rfl hfl hP hD hS dX1_init_21 (fun H locs hP hD hS hfl => ?_)
  refine lv_aload_n B.hx B.hb dX1_init_24 rfl (lv_at hl 0 rfl) ?_
  refine lv_iload_n B.hx B.hb dX1_init_25 rfl (lv_at hl 3 rfl) ?_
  refine zc_put (f := 2) (ft := tyX1 2) B hin zK1 (by decide) zv_742 rfl rfl (tyX1_ok 2 (by decide)) rfl rfl hfl hP hD hS dX1_init_26 (fun H locs hP hD hS hfl => ?_)
  exact zc_vret (w1 := w_X1 g d gd qt) [] B hr hlk hP hD hS dX1_init_29
theorem dX2_init_0 : decode cX2_init 0 = .ok (.aload_n 0, 1) := by decide +kernel
theorem dX2_init_1 : decode cX2_init 1 = .ok (.invokespecial 3, 3) := by decide +kernel
theorem dX2_init_4 : decode cX2_init 4 = .ok (.aload_n 0, 1) := by decide +kernel
theorem dX2_init_5 : decode cX2_init 5 = .ok (.iconst 0, 1) := by decide +kernel
theorem dX2_init_6 : decode cX2_init 6 = .ok (.putfield 9, 3) := by decide +kernel
theorem dX2_init_9 : decode cX2_init 9 = .ok (.aload_n 0, 1) := by decide +kernel
theorem dX2_init_10 : decode cX2_init 10 = .ok (.iconst 0, 1) := by decide +kernel
theorem dX2_init_11 : decode cX2_init 11 = .ok (.putfield 15, 3) := by decide +kernel
theorem dX2_init_14 : decode cX2_init 14 = .ok (.aload_n 0, 1) := by decide +kernel
theorem dX2_init_15 : decode cX2_init 15 = .ok (.iconst 0, 1) := by decide +kernel
theorem dX2_init_16 : decode cX2_init 16 = .ok (.putfield 18, 3) := by decide +kernel
theorem dX2_init_19 : decode cX2_init 19 = .ok (.aload_n 0, 1) := by decide +kernel
theorem dX2_init_20 : decode cX2_init 20 = .ok (.iconst 0, 1) := by decide +kernel
theorem dX2_init_21 : decode cX2_init 21 = .ok (.putfield 21, 3) := by decide +kernel
theorem dX2_init_24 : decode cX2_init 24 = .ok (.aload_n 0, 1) := by decide +kernel
theorem dX2_init_25 : decode cX2_init 25 = .ok (.iconst 0, 1) := by decide +kernel
theorem dX2_init_26 : decode cX2_init 26 = .ok (.putfield 24, 3) := by decide +kernel
theorem dX2_init_29 : decode cX2_init 29 = .ok (.return_, 1) := by decide +kernel
def w_X2 (g : ZG) (o : Nat) (qs : List Nat) : va_W := [(o, .inr (2, [.int 0, .int 0, .int 0, .int 0, .int 0]))]
set_option maxRecDepth 100000 in
set_option maxHeartbeats 4000000 in
theorem zmk_X2 (l : Launch) (g : ZG) : zMk l yX2_init cX2_init 1 { frames := 1, cells := 0, slots := 0, locals := 12 } 0 0 g [] 2 [.int 0, .int 0, .int 0, .int 0, .int 0] (w_X2 g) := by
  refine zMk_of (by decide +kernel) rfl (fun o => (Nat.le_of_ble_eq_true rfl)) (fun o p e s m args below meth c A ls B hin hr hlk hP hD hS hl => ?_)
  have hl : lv_has ls 1 [(0, .ref o)] := hl
  refine lv_aload_n B.hx B.hb dX2_init_0 rfl (lv_at hl 0 rfl) ?_
  refine zc_obj B ⟨(Nat.le_of_ble_eq_true rfl), (Nat.le_of_ble_eq_true rfl)⟩ hl.1 zv_104 zv_65 zv_66 dX2_init_1 ?_
  refine lv_aload_n B.hx B.hb dX2_init_4 rfl (lv_at hl 0 rfl) ?_
  refine lv_iconst (v := 0) B.hx B.hb dX2_init_5 (by decide) ?_
  refine zc_put (f := 0) (ft := tyX2 0) B hin zK2 (by decide) zv_105 rfl rfl (tyX2_ok 0 (by decide)) rfl rfl rfl hP hD hS dX2_init_6 (fun H locs hP hD hS hfl => ?_)
  refine lv_aload_n B.hx B.hb dX2_init_9 rfl (lv_at hl 0 rfl) ?_
  refine lv_iconst (v := 0) B.hx B.hb dX2_init_10 (by decide) ?_
  refine zc_put (f := 1) (ft := tyX2 1) B hin zK2 (by decide) zv_107 rfl rfl (tyX2_ok 1 (by decide)) rfl rfl hfl hP hD hS dX2_init_11 (fun H locs hP hD hS hfl => ?_)
  refine lv_aload_n B.hx B.hb dX2_init_14 rfl (lv_at hl 0 rfl) ?_
  refine lv_iconst (v := 0) B.hx B.hb dX2_init_15 (by decide) ?_
  refine zc_put (f := 2) (ft := tyX2 2) B hin zK2 (by decide) zv_109 rfl rfl (tyX2_ok 2 (by decide)) rfl rfl hfl hP hD hS dX2_init_16 (fun H locs hP hD hS hfl => ?_)
  refine lv_aload_n B.hx B.hb dX2_init_19 rfl (lv_at hl 0 rfl) ?_
  refine lv_iconst (v := 0) B.hx B.hb dX2_init_20 (by decide) ?_
  refine zc_put (f := 3) (ft := tyX2 3) B hin zK2 (by decide) zv_111 rfl rfl (tyX2_ok 3 (by decide)) rfl rfl hfl hP hD hS dX2_init_21 (fun H locs hP hD hS hfl => ?_)
  refine lv_aload_n B.hx B.hb dX2_init_24 rfl (lv_at hl 0 rfl) ?_
  refine lv_iconst (v := 0) B.hx B.hb dX2_init_25 (by decide) ?_
  refine zc_put (f := 4) (ft := tyX2 4) B hin zK2 (by decide) zv_113 rfl rfl (tyX2_ok 4 (by decide)) rfl rfl hfl hP hD hS dX2_init_26 (fun H locs hP hD hS hfl => ?_)
  exact zc_vret (w1 := w_X2 g) [] B hr hlk hP hD hS dX2_init_29
theorem dX3_init_0 : decode cX3_init 0 = .ok (.aload_n 0, 1) := by decide +kernel
theorem dX3_init_1 : decode cX3_init 1 = .ok (.invokespecial 3, 3) := by decide +kernel
theorem dX3_init_4 : decode cX3_init 4 = .ok (.aload_n 0, 1) := by decide +kernel
theorem dX3_init_5 : decode cX3_init 5 = .ok (.bipush 100, 2) := by decide +kernel
theorem dX3_init_7 : decode cX3_init 7 = .ok (.putfield 9, 3) := by decide +kernel
theorem dX3_init_10 : decode cX3_init 10 = .ok (.aload_n 0, 1) := by decide +kernel
theorem dX3_init_11 : decode cX3_init 11 = .ok (.iconst (-1), 1) := by decide +kernel
theorem dX3_init_12 : decode cX3_init 12 = .ok (.putfield 15, 3) := by decide +kernel
theorem dX3_init_15 : decode cX3_init 15 = .ok (.aload_n 0, 1) := by decide +kernel
theorem dX3_init_16 : decode cX3_init 16 = .ok (.iconst 0, 1) := by decide +kernel
theorem dX3_init_17 : decode cX3_init 17 = .ok (.putfield 18, 3) := by decide +kernel
theorem dX3_init_20 : decode cX3_init 20 = .ok (.aload_n 0, 1) := by decide +kernel
theorem dX3_init_21 : decode cX3_init 21 = .ok (.iconst 0, 1) := by decide +kernel
theorem dX3_init_22 : decode cX3_init 22 = .ok (.putfield 22, 3) := by decide +kernel
theorem dX3_init_25 : decode cX3_init 25 = .ok (.aload_n 0, 1) := by decide +kernel
theorem dX3_init_26 : decode cX3_init 26 = .ok (.iconst 0, 1) := by decide +kernel
theorem dX3_init_27 : decode cX3_init 27 = .ok (.putfield 25, 3) := by decide +kernel
theorem dX3_init_30 : decode cX3_init 30 = .ok (.aload_n 0, 1) := by decide +kernel
theorem dX3_init_31 : decode cX3_init 31 = .ok (.iconst 0, 1) := by decide +kernel
theorem dX3_init_32 : decode cX3_init 32 = .ok (.putfield 28, 3) := by decide +kernel
theorem dX3_init_35 : decode cX3_init 35 = .ok (.aload_n 0, 1) := by decide +kernel
theorem dX3_init_36 : decode cX3_init 36 = .ok (.bipush 6, 2) := by decide +kernel
theorem dX3_init_38 : decode cX3_init 38 = .ok (.newarray .int, 2) := by decide +kernel
theorem dX3_init_40 : decode cX3_init 40 = .ok (.putfield 31, 3) := by decide +kernel
theorem dX3_init_43 : decode cX3_init 43 = .ok (.aload_n 0, 1) := by decide +kernel
theorem dX3_init_44 : decode cX3_init 44 = .ok (.iload_n 1, 1) := by decide +kernel
theorem dX3_init_45 : decode cX3_init 45 = .ok (.putfield 35, 3) := by decide +kernel
theorem dX3_init_48 : decode cX3_init 48 = .ok (.aload_n 0, 1) := by decide +kernel
theorem dX3_init_49 : decode cX3_init 49 = .ok (.iload_n 2, 1) := by decide +kernel
theorem dX3_init_50 : decode cX3_init 50 = .ok (.putfield 38, 3) := by decide +kernel
theorem dX3_init_53 : decode cX3_init 53 = .ok (.aload_n 0, 1) := by decide +kernel
theorem dX3_init_54 : decode cX3_init 54 = .ok (.aload_n 3, 1) := by decide +kernel
theorem dX3_init_55 : decode cX3_init 55 = .ok (.putfield 41, 3) := by decide +kernel
theorem dX3_init_58 : decode cX3_init 58 = .ok (.aload_n 0, 1) := by decide +kernel
theorem dX3_init_59 : decode cX3_init 59 = .ok (.aload_n 3, 1) := by decide +kernel
theorem dX3_init_60 : decode cX3_init 60 = .ok (.putfield 45, 3) := by decide +kernel
theorem dX3_init_63 : decode cX3_init 63 = .ok (.return_, 1) := by decide +kernel
def w_X3 (g : ZG) (n : Int32) (kd : Int32) (j : Nat) (o : Nat) (qs : List Nat) : va_W := [(o, .inr (3, [.int n, .int kd, .ref j, .ref j, .int 100, .int (-1), .int 0, .int 0, .int 0, .int 0, .ref (qs.getD 0 0)])), ((qs.getD 0 0), .inl (g.2.1 0, (6, .inl (fun _ => 0))))]
set_option maxRecDepth 100000 in
set_option maxHeartbeats 4000000 in
theorem zmk_X3 (l : Launch) (g : ZG) (n : Int32) (kd : Int32) (j : Nat) : zMk l yX3_init cX3_init 4 { frames := 1, cells := 1, slots := 6, locals := 12 } 1 6 g [.int n, .int kd, .ref j] 3 [.int 0, .int 0, .null, .null, .int 0, .int 0, .int 0, .int 0, .int 0, .int 0, .null] (w_X3 g n kd j) := by
  refine zMk_of (by decide +kernel) rfl (fun o => (Nat.le_of_ble_eq_true rfl)) (fun o p e s m args below meth c A ls B hin hr hlk hP hD hS hl => ?_)
  have hl : lv_has ls 4 [(0, .ref o), (1, .int n), (2, .int kd), (3, .ref j)] := hl
  refine lv_aload_n B.hx B.hb dX3_init_0 rfl (lv_at hl 0 rfl) ?_
  refine zc_obj B ⟨(Nat.le_of_ble_eq_true rfl), (Nat.le_of_ble_eq_true rfl)⟩ hl.1 zv_362 zv_65 zv_66 dX3_init_1 ?_
  refine lv_aload_n B.hx B.hb dX3_init_4 rfl (lv_at hl 0 rfl) ?_
  refine lv_bipush (v := 100) B.hx B.hb dX3_init_5 (by decide) ?_
  refine zc_put (f := 4) (ft := tyX3 4) B hin zK3 (by decide) zv_371 rfl rfl (tyX3_ok 4 (by decide)) rfl rfl rfl hP hD hS dX3_init_7 (fun H locs hP hD hS hfl => ?_)
  refine lv_aload_n B.hx B.hb dX3_init_10 rfl (lv_at hl 0 rfl) ?_
  refine lv_iconst (v := (-1)) B.hx B.hb dX3_init_11 (by decide) ?_
  refine zc_put (f := 5) (ft := tyX3 5) B hin zK3 (by decide) zv_373 rfl rfl (tyX3_ok 5 (by decide)) rfl rfl hfl hP hD hS dX3_init_12 (fun H locs hP hD hS hfl => ?_)
  refine lv_aload_n B.hx B.hb dX3_init_15 rfl (lv_at hl 0 rfl) ?_
  refine lv_iconst (v := 0) B.hx B.hb dX3_init_16 (by decide) ?_
  refine zc_put (f := 6) (ft := tyX3 6) B hin zK3 (by decide) zv_375 rfl rfl (tyX3_ok 6 (by decide)) rfl rfl hfl hP hD hS dX3_init_17 (fun H locs hP hD hS hfl => ?_)
  refine lv_aload_n B.hx B.hb dX3_init_20 rfl (lv_at hl 0 rfl) ?_
  refine lv_iconst (v := 0) B.hx B.hb dX3_init_21 (by decide) ?_
  refine zc_put (f := 7) (ft := tyX3 7) B hin zK3 (by decide) zv_377 rfl rfl (tyX3_ok 7 (by decide)) rfl rfl hfl hP hD hS dX3_init_22 (fun H locs hP hD hS hfl => ?_)
  refine lv_aload_n B.hx B.hb dX3_init_25 rfl (lv_at hl 0 rfl) ?_
  refine lv_iconst (v := 0) B.hx B.hb dX3_init_26 (by decide) ?_
  refine zc_put (f := 8) (ft := tyX3 8) B hin zK3 (by decide) zv_379 rfl rfl (tyX3_ok 8 (by decide)) rfl rfl hfl hP hD hS dX3_init_27 (fun H locs hP hD hS hfl => ?_)
  refine lv_aload_n B.hx B.hb dX3_init_30 rfl (lv_at hl 0 rfl) ?_
  refine lv_iconst (v := 0) B.hx B.hb dX3_init_31 (by decide) ?_
  refine zc_put (f := 9) (ft := tyX3 9) B hin zK3 (by decide) zv_381 rfl rfl (tyX3_ok 9 (by decide)) rfl rfl hfl hP hD hS dX3_init_32 (fun H locs hP hD hS hfl => ?_)
  refine lv_aload_n B.hx B.hb dX3_init_35 rfl (lv_at hl 0 rfl) ?_
  refine lv_bipush (v := 6) B.hx B.hb dX3_init_36 (by decide) ?_
  refine zc_newT (k := 0) (ty := .int) (a0 := (6, .inl (fun _ => 0))) (N' := 6) B zv_99 rfl (fun _ => rfl) (fun _ h => h) (fun _ => rfl) hP hD hS (by decide) rfl (Nat.le_of_ble_eq_true rfl) (Nat.le_of_ble_eq_true rfl) (Nat.le_of_ble_eq_true rfl) dX3_init_38 (fun q1 H hP hD hS => ?_)
  refine zc_put (f := 10) (ft := tyX3 10) B hin zK3 (by decide) zv_383 rfl rfl (tyX3_ok 10 (by decide)) rfl rfl hfl hP hD hS dX3_init_40 (fun H locs hP hD hS hfl => ?_)
  refine lv_aload_n B.hx B.hb dX3_init_43 rfl (lv_at hl 0 rfl) ?_
  refine lv_iload_n B.hx B.hb dX3_init_44 rfl (lv_at hl 1 rfl) ?_
  refine zc_put (f := 0) (ft := tyX3 0) B hin zK3 (by decide) zv_363 rfl rfl (tyX3_ok 0 (by decide)) rfl rfl hfl hP hD hS dX3_init_45 (fun H locs hP hD hS hfl => ?_)
  refine lv_aload_n B.hx B.hb dX3_init_48 rfl (lv_at hl 0 rfl) ?_
  refine lv_iload_n B.hx B.hb dX3_init_49 rfl (lv_at hl 2 rfl) ?_
  refine zc_put (f := 1) (ft := tyX3 1) B hin zK3 (by decide) zv_365 rfl rfl (tyX3_ok 1 (by decide)) rfl rfl hfl hP hD hS dX3_init_50 (fun H locs hP hD hS hfl => ?_)
  refine lv_aload_n B.hx B.hb dX3_init_53 rfl (lv_at hl 0 rfl) ?_
  refine lv_aload_n B.hx B.hb dX3_init_54 rfl (lv_at hl 3 rfl) ?_
  refine zc_put (f := 2) (ft := tyX3 2) B hin zK3 (by decide) zv_367 rfl rfl (tyX3_ok 2 (by decide)) rfl rfl hfl hP hD hS dX3_init_55 (fun H locs hP hD hS hfl => ?_)
  refine lv_aload_n B.hx B.hb dX3_init_58 rfl (lv_at hl 0 rfl) ?_
  refine lv_aload_n B.hx B.hb dX3_init_59 rfl (lv_at hl 3 rfl) ?_
  refine zc_put (f := 3) (ft := tyX3 3) B hin zK3 (by decide) zv_369 rfl rfl (tyX3_ok 3 (by decide)) rfl rfl hfl hP hD hS dX3_init_60 (fun H locs hP hD hS hfl => ?_)
  exact zc_vret (w1 := w_X3 g n kd j) [q1] B hr hlk hP hD hS dX3_init_63
theorem dX4_init_0 : decode cX4_init 0 = .ok (.aload_n 0, 1) := by decide +kernel
theorem dX4_init_1 : decode cX4_init 1 = .ok (.invokespecial 3, 3) := by decide +kernel
theorem dX4_init_4 : decode cX4_init 4 = .ok (.aload_n 0, 1) := by decide +kernel
theorem dX4_init_5 : decode cX4_init 5 = .ok (.sipush 512, 3) := by decide +kernel
theorem dX4_init_8 : decode cX4_init 8 = .ok (.newarray .int, 2) := by decide +kernel
theorem dX4_init_10 : decode cX4_init 10 = .ok (.putfield 9, 3) := by decide +kernel
theorem dX4_init_13 : decode cX4_init 13 = .ok (.aload_n 0, 1) := by decide +kernel
theorem dX4_init_14 : decode cX4_init 14 = .ok (.sipush 512, 3) := by decide +kernel
theorem dX4_init_17 : decode cX4_init 17 = .ok (.newarray .int, 2) := by decide +kernel
theorem dX4_init_19 : decode cX4_init 19 = .ok (.putfield 15, 3) := by decide +kernel
theorem dX4_init_22 : decode cX4_init 22 = .ok (.aload_n 0, 1) := by decide +kernel
theorem dX4_init_23 : decode cX4_init 23 = .ok (.sipush 512, 3) := by decide +kernel
theorem dX4_init_26 : decode cX4_init 26 = .ok (.newarray .int, 2) := by decide +kernel
theorem dX4_init_28 : decode cX4_init 28 = .ok (.putfield 18, 3) := by decide +kernel
theorem dX4_init_31 : decode cX4_init 31 = .ok (.aload_n 0, 1) := by decide +kernel
theorem dX4_init_32 : decode cX4_init 32 = .ok (.sipush 512, 3) := by decide +kernel
theorem dX4_init_35 : decode cX4_init 35 = .ok (.newarray .int, 2) := by decide +kernel
theorem dX4_init_37 : decode cX4_init 37 = .ok (.putfield 21, 3) := by decide +kernel
theorem dX4_init_40 : decode cX4_init 40 = .ok (.aload_n 0, 1) := by decide +kernel
theorem dX4_init_41 : decode cX4_init 41 = .ok (.iconst 0, 1) := by decide +kernel
theorem dX4_init_42 : decode cX4_init 42 = .ok (.putfield 24, 3) := by decide +kernel
theorem dX4_init_45 : decode cX4_init 45 = .ok (.return_, 1) := by decide +kernel
def w_X4 (g : ZG) (o : Nat) (qs : List Nat) : va_W := [(o, .inr (4, [.ref (qs.getD 0 0), .ref (qs.getD 1 0), .ref (qs.getD 2 0), .ref (qs.getD 3 0), .int 0])), ((qs.getD 0 0), .inl (g.2.1 0, (512, .inl (fun _ => 0)))), ((qs.getD 1 0), .inl (g.2.1 0, (512, .inl (fun _ => 0)))), ((qs.getD 2 0), .inl (g.2.1 0, (512, .inl (fun _ => 0)))), ((qs.getD 3 0), .inl (g.2.1 0, (512, .inl (fun _ => 0))))]
set_option maxRecDepth 100000 in
set_option maxHeartbeats 4000000 in
theorem zmk_X4 (l : Launch) (g : ZG) : zMk l yX4_init cX4_init 1 { frames := 1, cells := 4, slots := 2048, locals := 12 } 4 2048 g [] 4 [.null, .null, .null, .null, .int 0] (w_X4 g) := by
  refine zMk_of (by decide +kernel) rfl (fun o => (Nat.le_of_ble_eq_true rfl)) (fun o p e s m args below meth c A ls B hin hr hlk hP hD hS hl => ?_)
  have hl : lv_has ls 1 [(0, .ref o)] := hl
  refine lv_aload_n B.hx B.hb dX4_init_0 rfl (lv_at hl 0 rfl) ?_
  refine zc_obj B ⟨(Nat.le_of_ble_eq_true rfl), (Nat.le_of_ble_eq_true rfl)⟩ hl.1 zv_82 zv_65 zv_66 dX4_init_1 ?_
  refine lv_aload_n B.hx B.hb dX4_init_4 rfl (lv_at hl 0 rfl) ?_
  refine lv_sipush (v := 512) B.hx B.hb dX4_init_5 (by decide) ?_
  refine zc_newT (k := 0) (ty := .int) (a0 := (512, .inl (fun _ => 0))) (N' := 512) B zv_99 rfl (fun _ => rfl) (fun _ h => h) (fun _ => rfl) hP hD hS (by decide) rfl (Nat.le_of_ble_eq_true rfl) (Nat.le_of_ble_eq_true rfl) (Nat.le_of_ble_eq_true rfl) dX4_init_8 (fun q1 H hP hD hS => ?_)
  refine zc_put (f := 0) (ft := tyX4 0) B hin zK4 (by decide) zv_83 rfl rfl (tyX4_ok 0 (by decide)) rfl rfl rfl hP hD hS dX4_init_10 (fun H locs hP hD hS hfl => ?_)
  refine lv_aload_n B.hx B.hb dX4_init_13 rfl (lv_at hl 0 rfl) ?_
  refine lv_sipush (v := 512) B.hx B.hb dX4_init_14 (by decide) ?_
  refine zc_newT (k := 0) (ty := .int) (a0 := (512, .inl (fun _ => 0))) (N' := 512) B zv_99 rfl (fun _ => rfl) (fun _ h => h) (fun _ => rfl) hP hD hS (by decide) rfl (Nat.le_of_ble_eq_true rfl) (Nat.le_of_ble_eq_true rfl) (Nat.le_of_ble_eq_true rfl) dX4_init_17 (fun q2 H hP hD hS => ?_)
  refine zc_put (f := 1) (ft := tyX4 1) B hin zK4 (by decide) zv_84 rfl rfl (tyX4_ok 1 (by decide)) rfl rfl hfl hP hD hS dX4_init_19 (fun H locs hP hD hS hfl => ?_)
  refine lv_aload_n B.hx B.hb dX4_init_22 rfl (lv_at hl 0 rfl) ?_
  refine lv_sipush (v := 512) B.hx B.hb dX4_init_23 (by decide) ?_
  refine zc_newT (k := 0) (ty := .int) (a0 := (512, .inl (fun _ => 0))) (N' := 512) B zv_99 rfl (fun _ => rfl) (fun _ h => h) (fun _ => rfl) hP hD hS (by decide) rfl (Nat.le_of_ble_eq_true rfl) (Nat.le_of_ble_eq_true rfl) (Nat.le_of_ble_eq_true rfl) dX4_init_26 (fun q3 H hP hD hS => ?_)
  refine zc_put (f := 2) (ft := tyX4 2) B hin zK4 (by decide) zv_85 rfl rfl (tyX4_ok 2 (by decide)) rfl rfl hfl hP hD hS dX4_init_28 (fun H locs hP hD hS hfl => ?_)
  refine lv_aload_n B.hx B.hb dX4_init_31 rfl (lv_at hl 0 rfl) ?_
  refine lv_sipush (v := 512) B.hx B.hb dX4_init_32 (by decide) ?_
  refine zc_newT (k := 0) (ty := .int) (a0 := (512, .inl (fun _ => 0))) (N' := 512) B zv_99 rfl (fun _ => rfl) (fun _ h => h) (fun _ => rfl) hP hD hS (by decide) rfl (Nat.le_of_ble_eq_true rfl) (Nat.le_of_ble_eq_true rfl) (Nat.le_of_ble_eq_true rfl) dX4_init_35 (fun q4 H hP hD hS => ?_)
  refine zc_put (f := 3) (ft := tyX4 3) B hin zK4 (by decide) zv_86 rfl rfl (tyX4_ok 3 (by decide)) rfl rfl hfl hP hD hS dX4_init_37 (fun H locs hP hD hS hfl => ?_)
  refine lv_aload_n B.hx B.hb dX4_init_40 rfl (lv_at hl 0 rfl) ?_
  refine lv_iconst (v := 0) B.hx B.hb dX4_init_41 (by decide) ?_
  refine zc_put (f := 4) (ft := tyX4 4) B hin zK4 (by decide) zv_87 rfl rfl (tyX4_ok 4 (by decide)) rfl rfl hfl hP hD hS dX4_init_42 (fun H locs hP hD hS hfl => ?_)
  exact zc_vret (w1 := w_X4 g) [q1, q2, q3, q4] B hr hlk hP hD hS dX4_init_45
theorem dX5_init_0 : decode cX5_init 0 = .ok (.aload_n 0, 1) := by decide +kernel
theorem dX5_init_1 : decode cX5_init 1 = .ok (.invokespecial 1, 3) := by decide +kernel
theorem dX5_init_4 : decode cX5_init 4 = .ok (.aload_n 0, 1) := by decide +kernel
theorem dX5_init_5 : decode cX5_init 5 = .ok (.iconst 0, 1) := by decide +kernel
theorem dX5_init_6 : decode cX5_init 6 = .ok (.putfield 7, 3) := by decide +kernel
theorem dX5_init_9 : decode cX5_init 9 = .ok (.aload_n 0, 1) := by decide +kernel
theorem dX5_init_10 : decode cX5_init 10 = .ok (.iconst 0, 1) := by decide +kernel
theorem dX5_init_11 : decode cX5_init 11 = .ok (.putfield 13, 3) := by decide +kernel
theorem dX5_init_14 : decode cX5_init 14 = .ok (.aload_n 0, 1) := by decide +kernel
theorem dX5_init_15 : decode cX5_init 15 = .ok (.iconst 0, 1) := by decide +kernel
theorem dX5_init_16 : decode cX5_init 16 = .ok (.putfield 16, 3) := by decide +kernel
theorem dX5_init_19 : decode cX5_init 19 = .ok (.aload_n 0, 1) := by decide +kernel
theorem dX5_init_20 : decode cX5_init 20 = .ok (.iconst 0, 1) := by decide +kernel
theorem dX5_init_21 : decode cX5_init 21 = .ok (.putfield 19, 3) := by decide +kernel
theorem dX5_init_24 : decode cX5_init 24 = .ok (.aload_n 0, 1) := by decide +kernel
theorem dX5_init_25 : decode cX5_init 25 = .ok (.iconst 0, 1) := by decide +kernel
theorem dX5_init_26 : decode cX5_init 26 = .ok (.putfield 22, 3) := by decide +kernel
theorem dX5_init_29 : decode cX5_init 29 = .ok (.aload_n 0, 1) := by decide +kernel
theorem dX5_init_30 : decode cX5_init 30 = .ok (.iconst 0, 1) := by decide +kernel
theorem dX5_init_31 : decode cX5_init 31 = .ok (.putfield 25, 3) := by decide +kernel
theorem dX5_init_34 : decode cX5_init 34 = .ok (.return_, 1) := by decide +kernel
def w_X5 (g : ZG) (o : Nat) (qs : List Nat) : va_W := [(o, .inr (5, [.int 0, .int 0, .int 0, .int 0, .int 0, .int 0]))]
set_option maxRecDepth 100000 in
set_option maxHeartbeats 4000000 in
theorem zmk_X5 (l : Launch) (g : ZG) : zMk l yX5_init cX5_init 1 { frames := 1, cells := 0, slots := 0, locals := 12 } 0 0 g [] 5 [.int 0, .int 0, .int 0, .int 0, .int 0, .int 0] (w_X5 g) := by
  refine zMk_of (by decide +kernel) rfl (fun o => (Nat.le_of_ble_eq_true rfl)) (fun o p e s m args below meth c A ls B hin hr hlk hP hD hS hl => ?_)
  have hl : lv_has ls 1 [(0, .ref o)] := hl
  refine lv_aload_n B.hx B.hb dX5_init_0 rfl (lv_at hl 0 rfl) ?_
  refine zc_obj B ⟨(Nat.le_of_ble_eq_true rfl), (Nat.le_of_ble_eq_true rfl)⟩ hl.1 zv_553 zv_65 zv_66 dX5_init_1 ?_
  refine lv_aload_n B.hx B.hb dX5_init_4 rfl (lv_at hl 0 rfl) ?_
  refine lv_iconst (v := 0) B.hx B.hb dX5_init_5 (by decide) ?_
  refine zc_put (f := 0) (ft := tyX5 0) B hin zK5 (by decide) zv_554 rfl rfl (tyX5_ok 0 (by decide)) rfl rfl rfl hP hD hS dX5_init_6 (fun H locs hP hD hS hfl => ?_)
  refine lv_aload_n B.hx B.hb dX5_init_9 rfl (lv_at hl 0 rfl) ?_
  refine lv_iconst (v := 0) B.hx B.hb dX5_init_10 (by decide) ?_
  refine zc_put (f := 1) (ft := tyX5 1) B hin zK5 (by decide) zv_556 rfl rfl (tyX5_ok 1 (by decide)) rfl rfl hfl hP hD hS dX5_init_11 (fun H locs hP hD hS hfl => ?_)
  refine lv_aload_n B.hx B.hb dX5_init_14 rfl (lv_at hl 0 rfl) ?_
  refine lv_iconst (v := 0) B.hx B.hb dX5_init_15 (by decide) ?_
  refine zc_put (f := 2) (ft := tyX5 2) B hin zK5 (by decide) zv_558 rfl rfl (tyX5_ok 2 (by decide)) rfl rfl hfl hP hD hS dX5_init_16 (fun H locs hP hD hS hfl => ?_)
  refine lv_aload_n B.hx B.hb dX5_init_19 rfl (lv_at hl 0 rfl) ?_
  refine lv_iconst (v := 0) B.hx B.hb dX5_init_20 (by decide) ?_
  refine zc_put (f := 3) (ft := tyX5 3) B hin zK5 (by decide) zv_560 rfl rfl (tyX5_ok 3 (by decide)) rfl rfl hfl hP hD hS dX5_init_21 (fun H locs hP hD hS hfl => ?_)
  refine lv_aload_n B.hx B.hb dX5_init_24 rfl (lv_at hl 0 rfl) ?_
  refine lv_iconst (v := 0) B.hx B.hb dX5_init_25 (by decide) ?_
  refine zc_put (f := 4) (ft := tyX5 4) B hin zK5 (by decide) zv_562 rfl rfl (tyX5_ok 4 (by decide)) rfl rfl hfl hP hD hS dX5_init_26 (fun H locs hP hD hS hfl => ?_)
  refine lv_aload_n B.hx B.hb dX5_init_29 rfl (lv_at hl 0 rfl) ?_
  refine lv_iconst (v := 0) B.hx B.hb dX5_init_30 (by decide) ?_
  refine zc_put (f := 5) (ft := tyX5 5) B hin zK5 (by decide) zv_564 rfl rfl (tyX5_ok 5 (by decide)) rfl rfl hfl hP hD hS dX5_init_31 (fun H locs hP hD hS hfl => ?_)
  exact zc_vret (w1 := w_X5 g) [] B hr hlk hP hD hS dX5_init_34
end
section
theorem dX6_init_0 : decode cX6_init 0 = .ok (.aload_n 0, 1) := by decide +kernel
theorem dX6_init_1 : decode cX6_init 1 = .ok (.invokespecial 3, 3) := by decide +kernel
theorem dX6_init_4 : decode cX6_init 4 = .ok (.aload_n 0, 1) := by decide +kernel
theorem dX6_init_5 : decode cX6_init 5 = .ok (.bipush 6, 2) := by decide +kernel
theorem dX6_init_7 : decode cX6_init 7 = .ok (.anewarray 9, 3) := by decide +kernel
theorem dX6_init_10 : decode cX6_init 10 = .ok (.putfield 11, 3) := by decide +kernel
theorem dX6_init_13 : decode cX6_init 13 = .ok (.aload_n 0, 1) := by decide +kernel
theorem dX6_init_14 : decode cX6_init 14 = .ok (.iload_n 1, 1) := by decide +kernel
theorem dX6_init_15 : decode cX6_init 15 = .ok (.putfield 17, 3) := by decide +kernel
theorem dX6_init_18 : decode cX6_init 18 = .ok (.aload_n 0, 1) := by decide +kernel
theorem dX6_init_19 : decode cX6_init 19 = .ok (.aload_n 2, 1) := by decide +kernel
theorem dX6_init_20 : decode cX6_init 20 = .ok (.putfield 21, 3) := by decide +kernel
theorem dX6_init_23 : decode cX6_init 23 = .ok (.iconst 0, 1) := by decide +kernel
theorem dX6_init_24 : decode cX6_init 24 = .ok (.istore_n 3, 1) := by decide +kernel
theorem dX6_init_25 : decode cX6_init 25 = .ok (.iload_n 3, 1) := by decide +kernel
theorem dX6_init_26 : decode cX6_init 26 = .ok (.aload_n 0, 1) := by decide +kernel
theorem dX6_init_27 : decode cX6_init 27 = .ok (.getfield 11, 3) := by decide +kernel
theorem dX6_init_30 : decode cX6_init 30 = .ok (.arraylength, 1) := by decide +kernel
theorem dX6_init_31 : decode cX6_init 31 = .ok (.if_icmp .ge 22, 3) := by decide +kernel
theorem dX6_init_34 : decode cX6_init 34 = .ok (.aload_n 0, 1) := by decide +kernel
theorem dX6_init_35 : decode cX6_init 35 = .ok (.getfield 11, 3) := by decide +kernel
theorem dX6_init_38 : decode cX6_init 38 = .ok (.iload_n 3, 1) := by decide +kernel
theorem dX6_init_39 : decode cX6_init 39 = .ok (.new 9, 3) := by decide +kernel
theorem dX6_init_42 : decode cX6_init 42 = .ok (.dup, 1) := by decide +kernel
theorem dX6_init_43 : decode cX6_init 43 = .ok (.invokespecial 25, 3) := by decide +kernel
theorem dX6_init_46 : decode cX6_init 46 = .ok (.aastore, 1) := by decide +kernel
theorem dX6_init_47 : decode cX6_init 47 = .ok (.iinc 3 1, 3) := by decide +kernel
theorem dX6_init_50 : decode cX6_init 50 = .ok (.goto (-25), 3) := by decide +kernel
theorem dX6_init_53 : decode cX6_init 53 = .ok (.return_, 1) := by decide +kernel
def w_X6 (g : ZG) (n : Int32) (d : Nat) (o : Nat) (qs : List Nat) : va_W := [(o, .inr (6, [.int n, .ref d, .ref (qs.getD 0 0)])), ((qs.getD 0 0), .inl (g.2.1 6, (6, .inr (.inr (.inr (.inr (va_up (va_up (va_up (va_up (va_up (va_up (fun _ => none) 0 (some (qs.getD 1 0))) 1 (some (qs.getD 2 0))) 2 (some (qs.getD 3 0))) 3 (some (qs.getD 4 0))) 4 (some (qs.getD 5 0))) 5 (some (qs.getD 6 0))))))))), ((qs.getD 1 0), .inr (5, [.int 0, .int 0, .int 0, .int 0, .int 0, .int 0])), ((qs.getD 2 0), .inr (5, [.int 0, .int 0, .int 0, .int 0, .int 0, .int 0])), ((qs.getD 3 0), .inr (5, [.int 0, .int 0, .int 0, .int 0, .int 0, .int 0])), ((qs.getD 4 0), .inr (5, [.int 0, .int 0, .int 0, .int 0, .int 0, .int 0])), ((qs.getD 5 0), .inr (5, [.int 0, .int 0, .int 0, .int 0, .int 0, .int 0])), ((qs.getD 6 0), .inr (5, [.int 0, .int 0, .int 0, .int 0, .int 0, .int 0]))]
set_option maxRecDepth 100000 in
set_option maxHeartbeats 4000000 in
theorem zmk_X6 (l : Launch) (g : ZG) (n : Int32) (d : Nat) : zMk l yX6_init cX6_init 4 { frames := 2, cells := 7, slots := 42, locals := 32 } 7 42 g [.int n, .ref d] 6 [.int 0, .null, .null] (w_X6 g n d) := by
  refine zMk_of (by decide +kernel) rfl (fun o => (Nat.le_of_ble_eq_true rfl)) (fun o p e s m args below meth c A ls B hin hr hlk hP hD hS hl => ?_)
  have hl : lv_has ls 4 [(0, .ref o), (1, .int n), (2, .ref d)] := hl
  refine lv_aload_n B.hx B.hb dX6_init_0 rfl (lv_at hl 0 rfl) ?_
  refine zc_obj B ⟨(Nat.le_of_ble_eq_true rfl), (Nat.le_of_ble_eq_true rfl)⟩ hl.1 zv_546 zv_65 zv_66 dX6_init_1 ?_
  refine lv_aload_n B.hx B.hb dX6_init_4 rfl (lv_at hl 0 rfl) ?_
  refine lv_bipush (v := 6) B.hx B.hb dX6_init_5 (by decide) ?_
  refine zc_newq (C := "Pointsbook$Shelf") (k := 6) (N' := 6) B (by decide +kernel) zv_547 (fun _ => rfl) hP hD hS (by decide) rfl (Nat.le_of_ble_eq_true rfl) (Nat.le_of_ble_eq_true rfl) (Nat.le_of_ble_eq_true rfl) dX6_init_7 (fun q1 H hP hD hS => ?_)
  refine zc_put (f := 2) (ft := tyX6 2) B hin zK6 (by decide) zv_583 rfl rfl (tyX6_ok 2 (by decide)) rfl rfl rfl hP hD hS dX6_init_10 (fun H locs hP hD hS hfl => ?_)
  refine lv_aload_n B.hx B.hb dX6_init_13 rfl (lv_at hl 0 rfl) ?_
  refine lv_iload_n B.hx B.hb dX6_init_14 rfl (lv_at hl 1 rfl) ?_
  refine zc_put (f := 0) (ft := tyX6 0) B hin zK6 (by decide) zv_579 rfl rfl (tyX6_ok 0 (by decide)) rfl rfl hfl hP hD hS dX6_init_15 (fun H locs hP hD hS hfl => ?_)
  refine lv_aload_n B.hx B.hb dX6_init_18 rfl (lv_at hl 0 rfl) ?_
  refine lv_aload_n B.hx B.hb dX6_init_19 rfl (lv_at hl 2 rfl) ?_
  refine zc_put (f := 1) (ft := tyX6 1) B hin zK6 (by decide) zv_581 rfl rfl (tyX6_ok 1 (by decide)) rfl rfl hfl hP hD hS dX6_init_20 (fun H locs hP hD hS hfl => ?_)
  refine lv_iconst (v := 0) B.hx B.hb dX6_init_23 (by decide) ?_
  refine lv_istore_n (lv' := [(3, .int 0), (0, .ref o), (1, .int n), (2, .ref d)]) B.hx B.hb dX6_init_24 rfl hl (by decide) rfl (fun ls hl => ?_)
  have hP : va_P g.1 vwCl [(o, .inr (6, [.int n, .ref d, .ref q1])), (q1, .inl (g.2.1 6, (6, .inr (.inr (.inr (.inr (fun _ => none)))))))] H := hP
  have hD : va_D A [(o, .inr (6, [.int n, .ref d, .ref q1])), (q1, .inl (g.2.1 6, (6, .inr (.inr (.inr (.inr (fun _ => none)))))))] := hD
  refine lv_iload_n B.hx B.hb dX6_init_25 rfl (lv_at hl 0 rfl) ?_
  refine lv_aload_n B.hx B.hb dX6_init_26 rfl (lv_at hl 1 rfl) ?_
  refine va_get (D := g.1) (ci := 6) (v := .ref q1) (C := RX6) (T := TX6) (N := 3) B.hx B.hb B.hw zK6.2.1 B.hown B.hE.2.1 hP 0 rfl zK6.1 2 (by decide) (B.hw _ zv_583) (fun _ h9 => h9) rfl dX6_init_27 ?_
  refine va_alen (v := 6) B.hx B.hb B.hE.2.1 hP 1 6 rfl rfl rfl dX6_init_30 ?_
  refine lv_icmp_ge (tgt := 53) B.hx B.hb dX6_init_31 (by decide) (fun c9 => absurd c9 (by decide)) (fun _ => ?_)
  refine lv_aload_n B.hx B.hb dX6_init_34 rfl (lv_at hl 1 rfl) ?_
  refine va_get (D := g.1) (ci := 6) (v := .ref q1) (C := RX6) (T := TX6) (N := 3) B.hx B.hb B.hw zK6.2.1 B.hown B.hE.2.1 hP 0 rfl zK6.1 2 (by decide) (B.hw _ zv_583) (fun _ h9 => h9) rfl dX6_init_35 ?_
  refine lv_iload_n B.hx B.hb dX6_init_38 rfl (lv_at hl 0 rfl) ?_
  refine zc_mk (ci := 5) (T := TX5) (ty := tyX5) (y := yX5_init) B zK5 zv_547 zv_549 (fun j hj => by rcases (show j = 0 ∨ j = 1 ∨ j = 2 ∨ j = 3 ∨ j = 4 ∨ j = 5 by omega) with rfl | rfl | rfl | rfl | rfl | rfl <;> rfl) (zmk_X5 l g) (Or.inr ⟨"Pointsbook", by decide +kernel⟩) zv_552 zv_57 zv_551 rfl ⟨by decide +kernel, by decide +kernel, by decide +kernel⟩ ⟨rfl, rfl⟩ ⟨(Nat.le_of_ble_eq_true rfl), (Nat.le_of_ble_eq_true rfl)⟩ (Nat.le_of_ble_eq_true rfl) (Nat.le_of_ble_eq_true rfl) hP hD hS hl.1 (Nat.le_of_ble_eq_true rfl) dX6_init_39 dX6_init_42 dX6_init_43 (fun q2 u3 H locs hP hD hS => ?_)
  have hP : va_P g.1 vwCl [(o, .inr (6, [.int n, .ref d, .ref q1])), (q1, .inl (g.2.1 6, (6, .inr (.inr (.inr (.inr (fun _ => none))))))), (q2, .inr (5, [.int 0, .int 0, .int 0, .int 0, .int 0, .int 0]))] H := hP
  have hD : va_D A [(o, .inr (6, [.int n, .ref d, .ref q1])), (q1, .inl (g.2.1 6, (6, .inr (.inr (.inr (.inr (fun _ => none))))))), (q2, .inr (5, [.int 0, .int 0, .int 0, .int 0, .int 0, .int 0]))] := hD
  refine va_astq B.hx B.hb B.hE.2.1 hP hD hS 1 6 2 5 rfl rfl rfl rfl (vp_in_nI (n := 0) (N := 6) (by decide) (by decide)) dX6_init_46 (fun H locs hP hD hS => ?_)
  have hP : va_P g.1 vwCl [(o, .inr (6, [.int n, .ref d, .ref q1])), (q1, .inl (g.2.1 6, (6, .inr (.inr (.inr (.inr (va_up (fun _ => none) 0 (some q2)))))))), (q2, .inr (5, [.int 0, .int 0, .int 0, .int 0, .int 0, .int 0]))] H := hP
  have hD : va_D A [(o, .inr (6, [.int n, .ref d, .ref q1])), (q1, .inl (g.2.1 6, (6, .inr (.inr (.inr (.inr (va_up (fun _ => none) 0 (some q2)))))))), (q2, .inr (5, [.int 0, .int 0, .int 0, .int 0, .int 0, .int 0]))] := hD
  refine lv_iinc (v := 1) (lv' := [(3, .int 1), (0, .ref o), (1, .int n), (2, .ref d)]) B.hx B.hb dX6_init_47 hl (k := 0) rfl (by decide) (by decide) rfl (fun ls hl => ?_)
  refine lv_goto (tgt := 25) B.hx B.hb dX6_init_50 (by decide) ?_
  refine lv_iload_n B.hx B.hb dX6_init_25 rfl (lv_at hl 0 rfl) ?_
  refine lv_aload_n B.hx B.hb dX6_init_26 rfl (lv_at hl 1 rfl) ?_
  refine va_get (D := g.1) (ci := 6) (v := .ref q1) (C := RX6) (T := TX6) (N := 3) B.hx B.hb B.hw zK6.2.1 B.hown B.hE.2.1 hP 0 rfl zK6.1 2 (by decide) (B.hw _ zv_583) (fun _ h9 => h9) rfl dX6_init_27 ?_
  refine va_alen (v := 6) B.hx B.hb B.hE.2.1 hP 1 6 rfl rfl rfl dX6_init_30 ?_
  refine lv_icmp_ge (tgt := 53) B.hx B.hb dX6_init_31 (by decide) (fun c9 => absurd c9 (by decide)) (fun _ => ?_)
  refine lv_aload_n B.hx B.hb dX6_init_34 rfl (lv_at hl 1 rfl) ?_
  refine va_get (D := g.1) (ci := 6) (v := .ref q1) (C := RX6) (T := TX6) (N := 3) B.hx B.hb B.hw zK6.2.1 B.hown B.hE.2.1 hP 0 rfl zK6.1 2 (by decide) (B.hw _ zv_583) (fun _ h9 => h9) rfl dX6_init_35 ?_
  refine lv_iload_n B.hx B.hb dX6_init_38 rfl (lv_at hl 0 rfl) ?_
  refine zc_mk (ci := 5) (T := TX5) (ty := tyX5) (y := yX5_init) B zK5 zv_547 zv_549 (fun j hj => by rcases (show j = 0 ∨ j = 1 ∨ j = 2 ∨ j = 3 ∨ j = 4 ∨ j = 5 by omega) with rfl | rfl | rfl | rfl | rfl | rfl <;> rfl) (zmk_X5 l g) (Or.inr ⟨"Pointsbook", by decide +kernel⟩) zv_552 zv_57 zv_551 rfl ⟨by decide +kernel, by decide +kernel, by decide +kernel⟩ ⟨rfl, rfl⟩ ⟨(Nat.le_of_ble_eq_true rfl), (Nat.le_of_ble_eq_true rfl)⟩ (Nat.le_of_ble_eq_true rfl) (Nat.le_of_ble_eq_true rfl) hP hD hS hl.1 (Nat.le_of_ble_eq_true rfl) dX6_init_39 dX6_init_42 dX6_init_43 (fun q4 u5 H locs hP hD hS => ?_)
  have hP : va_P g.1 vwCl [(o, .inr (6, [.int n, .ref d, .ref q1])), (q1, .inl (g.2.1 6, (6, .inr (.inr (.inr (.inr (va_up (fun _ => none) 0 (some q2)))))))), (q2, .inr (5, [.int 0, .int 0, .int 0, .int 0, .int 0, .int 0])), (q4, .inr (5, [.int 0, .int 0, .int 0, .int 0, .int 0, .int 0]))] H := hP
  have hD : va_D A [(o, .inr (6, [.int n, .ref d, .ref q1])), (q1, .inl (g.2.1 6, (6, .inr (.inr (.inr (.inr (va_up (fun _ => none) 0 (some q2)))))))), (q2, .inr (5, [.int 0, .int 0, .int 0, .int 0, .int 0, .int 0])), (q4, .inr (5, [.int 0, .int 0, .int 0, .int 0, .int 0, .int 0]))] := hD
  refine va_astq B.hx B.hb B.hE.2.1 hP hD hS 1 6 3 5 rfl rfl rfl rfl (vp_in_nI (n := 1) (N := 6) (by decide) (by decide)) dX6_init_46 (fun H locs hP hD hS => ?_)
  have hP : va_P g.1 vwCl [(o, .inr (6, [.int n, .ref d, .ref q1])), (q1, .inl (g.2.1 6, (6, .inr (.inr (.inr (.inr (va_up (va_up (fun _ => none) 0 (some q2)) 1 (some q4)))))))), (q2, .inr (5, [.int 0, .int 0, .int 0, .int 0, .int 0, .int 0])), (q4, .inr (5, [.int 0, .int 0, .int 0, .int 0, .int 0, .int 0]))] H := hP
  have hD : va_D A [(o, .inr (6, [.int n, .ref d, .ref q1])), (q1, .inl (g.2.1 6, (6, .inr (.inr (.inr (.inr (va_up (va_up (fun _ => none) 0 (some q2)) 1 (some q4)))))))), (q2, .inr (5, [.int 0, .int 0, .int 0, .int 0, .int 0, .int 0])), (q4, .inr (5, [.int 0, .int 0, .int 0, .int 0, .int 0, .int 0]))] := hD
  refine lv_iinc (v := 2) (lv' := [(3, .int 2), (0, .ref o), (1, .int n), (2, .ref d)]) B.hx B.hb dX6_init_47 hl (k := 0) rfl (by decide) (by decide) rfl (fun ls hl => ?_)
  refine lv_goto (tgt := 25) B.hx B.hb dX6_init_50 (by decide) ?_
  refine lv_iload_n B.hx B.hb dX6_init_25 rfl (lv_at hl 0 rfl) ?_
  refine lv_aload_n B.hx B.hb dX6_init_26 rfl (lv_at hl 1 rfl) ?_
  refine va_get (D := g.1) (ci := 6) (v := .ref q1) (C := RX6) (T := TX6) (N := 3) B.hx B.hb B.hw zK6.2.1 B.hown B.hE.2.1 hP 0 rfl zK6.1 2 (by decide) (B.hw _ zv_583) (fun _ h9 => h9) rfl dX6_init_27 ?_
  refine va_alen (v := 6) B.hx B.hb B.hE.2.1 hP 1 6 rfl rfl rfl dX6_init_30 ?_
  refine lv_icmp_ge (tgt := 53) B.hx B.hb dX6_init_31 (by decide) (fun c9 => absurd c9 (by decide)) (fun _ => ?_)
  refine lv_aload_n B.hx B.hb dX6_init_34 rfl (lv_at hl 1 rfl) ?_
  refine va_get (D := g.1) (ci := 6) (v := .ref q1) (C := RX6) (T := TX6) (N := 3) B.hx B.hb B.hw zK6.2.1 B.hown B.hE.2.1 hP 0 rfl zK6.1 2 (by decide) (B.hw _ zv_583) (fun _ h9 => h9) rfl dX6_init_35 ?_
  refine lv_iload_n B.hx B.hb dX6_init_38 rfl (lv_at hl 0 rfl) ?_
  refine zc_mk (ci := 5) (T := TX5) (ty := tyX5) (y := yX5_init) B zK5 zv_547 zv_549 (fun j hj => by rcases (show j = 0 ∨ j = 1 ∨ j = 2 ∨ j = 3 ∨ j = 4 ∨ j = 5 by omega) with rfl | rfl | rfl | rfl | rfl | rfl <;> rfl) (zmk_X5 l g) (Or.inr ⟨"Pointsbook", by decide +kernel⟩) zv_552 zv_57 zv_551 rfl ⟨by decide +kernel, by decide +kernel, by decide +kernel⟩ ⟨rfl, rfl⟩ ⟨(Nat.le_of_ble_eq_true rfl), (Nat.le_of_ble_eq_true rfl)⟩ (Nat.le_of_ble_eq_true rfl) (Nat.le_of_ble_eq_true rfl) hP hD hS hl.1 (Nat.le_of_ble_eq_true rfl) dX6_init_39 dX6_init_42 dX6_init_43 (fun q6 u7 H locs hP hD hS => ?_)
  have hP : va_P g.1 vwCl [(o, .inr (6, [.int n, .ref d, .ref q1])), (q1, .inl (g.2.1 6, (6, .inr (.inr (.inr (.inr (va_up (va_up (fun _ => none) 0 (some q2)) 1 (some q4)))))))), (q2, .inr (5, [.int 0, .int 0, .int 0, .int 0, .int 0, .int 0])), (q4, .inr (5, [.int 0, .int 0, .int 0, .int 0, .int 0, .int 0])), (q6, .inr (5, [.int 0, .int 0, .int 0, .int 0, .int 0, .int 0]))] H := hP
  have hD : va_D A [(o, .inr (6, [.int n, .ref d, .ref q1])), (q1, .inl (g.2.1 6, (6, .inr (.inr (.inr (.inr (va_up (va_up (fun _ => none) 0 (some q2)) 1 (some q4)))))))), (q2, .inr (5, [.int 0, .int 0, .int 0, .int 0, .int 0, .int 0])), (q4, .inr (5, [.int 0, .int 0, .int 0, .int 0, .int 0, .int 0])), (q6, .inr (5, [.int 0, .int 0, .int 0, .int 0, .int 0, .int 0]))] := hD
  refine va_astq B.hx B.hb B.hE.2.1 hP hD hS 1 6 4 5 rfl rfl rfl rfl (vp_in_nI (n := 2) (N := 6) (by decide) (by decide)) dX6_init_46 (fun H locs hP hD hS => ?_)
  have hP : va_P g.1 vwCl [(o, .inr (6, [.int n, .ref d, .ref q1])), (q1, .inl (g.2.1 6, (6, .inr (.inr (.inr (.inr (va_up (va_up (va_up (fun _ => none) 0 (some q2)) 1 (some q4)) 2 (some q6)))))))), (q2, .inr (5, [.int 0, .int 0, .int 0, .int 0, .int 0, .int 0])), (q4, .inr (5, [.int 0, .int 0, .int 0, .int 0, .int 0, .int 0])), (q6, .inr (5, [.int 0, .int 0, .int 0, .int 0, .int 0, .int 0]))] H := hP
  have hD : va_D A [(o, .inr (6, [.int n, .ref d, .ref q1])), (q1, .inl (g.2.1 6, (6, .inr (.inr (.inr (.inr (va_up (va_up (va_up (fun _ => none) 0 (some q2)) 1 (some q4)) 2 (some q6)))))))), (q2, .inr (5, [.int 0, .int 0, .int 0, .int 0, .int 0, .int 0])), (q4, .inr (5, [.int 0, .int 0, .int 0, .int 0, .int 0, .int 0])), (q6, .inr (5, [.int 0, .int 0, .int 0, .int 0, .int 0, .int 0]))] := hD
  refine lv_iinc (v := 3) (lv' := [(3, .int 3), (0, .ref o), (1, .int n), (2, .ref d)]) B.hx B.hb dX6_init_47 hl (k := 0) rfl (by decide) (by decide) rfl (fun ls hl => ?_)
  refine lv_goto (tgt := 25) B.hx B.hb dX6_init_50 (by decide) ?_
  refine lv_iload_n B.hx B.hb dX6_init_25 rfl (lv_at hl 0 rfl) ?_
  refine lv_aload_n B.hx B.hb dX6_init_26 rfl (lv_at hl 1 rfl) ?_
  refine va_get (D := g.1) (ci := 6) (v := .ref q1) (C := RX6) (T := TX6) (N := 3) B.hx B.hb B.hw zK6.2.1 B.hown B.hE.2.1 hP 0 rfl zK6.1 2 (by decide) (B.hw _ zv_583) (fun _ h9 => h9) rfl dX6_init_27 ?_
  refine va_alen (v := 6) B.hx B.hb B.hE.2.1 hP 1 6 rfl rfl rfl dX6_init_30 ?_
  refine lv_icmp_ge (tgt := 53) B.hx B.hb dX6_init_31 (by decide) (fun c9 => absurd c9 (by decide)) (fun _ => ?_)
  refine lv_aload_n B.hx B.hb dX6_init_34 rfl (lv_at hl 1 rfl) ?_
  refine va_get (D := g.1) (ci := 6) (v := .ref q1) (C := RX6) (T := TX6) (N := 3) B.hx B.hb B.hw zK6.2.1 B.hown B.hE.2.1 hP 0 rfl zK6.1 2 (by decide) (B.hw _ zv_583) (fun _ h9 => h9) rfl dX6_init_35 ?_
  refine lv_iload_n B.hx B.hb dX6_init_38 rfl (lv_at hl 0 rfl) ?_
  refine zc_mk (ci := 5) (T := TX5) (ty := tyX5) (y := yX5_init) B zK5 zv_547 zv_549 (fun j hj => by rcases (show j = 0 ∨ j = 1 ∨ j = 2 ∨ j = 3 ∨ j = 4 ∨ j = 5 by omega) with rfl | rfl | rfl | rfl | rfl | rfl <;> rfl) (zmk_X5 l g) (Or.inr ⟨"Pointsbook", by decide +kernel⟩) zv_552 zv_57 zv_551 rfl ⟨by decide +kernel, by decide +kernel, by decide +kernel⟩ ⟨rfl, rfl⟩ ⟨(Nat.le_of_ble_eq_true rfl), (Nat.le_of_ble_eq_true rfl)⟩ (Nat.le_of_ble_eq_true rfl) (Nat.le_of_ble_eq_true rfl) hP hD hS hl.1 (Nat.le_of_ble_eq_true rfl) dX6_init_39 dX6_init_42 dX6_init_43 (fun q8 u9 H locs hP hD hS => ?_)
  have hP : va_P g.1 vwCl [(o, .inr (6, [.int n, .ref d, .ref q1])), (q1, .inl (g.2.1 6, (6, .inr (.inr (.inr (.inr (va_up (va_up (va_up (fun _ => none) 0 (some q2)) 1 (some q4)) 2 (some q6)))))))), (q2, .inr (5, [.int 0, .int 0, .int 0, .int 0, .int 0, .int 0])), (q4, .inr (5, [.int 0, .int 0, .int 0, .int 0, .int 0, .int 0])), (q6, .inr (5, [.int 0, .int 0, .int 0, .int 0, .int 0, .int 0])), (q8, .inr (5, [.int 0, .int 0, .int 0, .int 0, .int 0, .int 0]))] H := hP
  have hD : va_D A [(o, .inr (6, [.int n, .ref d, .ref q1])), (q1, .inl (g.2.1 6, (6, .inr (.inr (.inr (.inr (va_up (va_up (va_up (fun _ => none) 0 (some q2)) 1 (some q4)) 2 (some q6)))))))), (q2, .inr (5, [.int 0, .int 0, .int 0, .int 0, .int 0, .int 0])), (q4, .inr (5, [.int 0, .int 0, .int 0, .int 0, .int 0, .int 0])), (q6, .inr (5, [.int 0, .int 0, .int 0, .int 0, .int 0, .int 0])), (q8, .inr (5, [.int 0, .int 0, .int 0, .int 0, .int 0, .int 0]))] := hD
  refine va_astq B.hx B.hb B.hE.2.1 hP hD hS 1 6 5 5 rfl rfl rfl rfl (vp_in_nI (n := 3) (N := 6) (by decide) (by decide)) dX6_init_46 (fun H locs hP hD hS => ?_)
  have hP : va_P g.1 vwCl [(o, .inr (6, [.int n, .ref d, .ref q1])), (q1, .inl (g.2.1 6, (6, .inr (.inr (.inr (.inr (va_up (va_up (va_up (va_up (fun _ => none) 0 (some q2)) 1 (some q4)) 2 (some q6)) 3 (some q8)))))))), (q2, .inr (5, [.int 0, .int 0, .int 0, .int 0, .int 0, .int 0])), (q4, .inr (5, [.int 0, .int 0, .int 0, .int 0, .int 0, .int 0])), (q6, .inr (5, [.int 0, .int 0, .int 0, .int 0, .int 0, .int 0])), (q8, .inr (5, [.int 0, .int 0, .int 0, .int 0, .int 0, .int 0]))] H := hP
  have hD : va_D A [(o, .inr (6, [.int n, .ref d, .ref q1])), (q1, .inl (g.2.1 6, (6, .inr (.inr (.inr (.inr (va_up (va_up (va_up (va_up (fun _ => none) 0 (some q2)) 1 (some q4)) 2 (some q6)) 3 (some q8)))))))), (q2, .inr (5, [.int 0, .int 0, .int 0, .int 0, .int 0, .int 0])), (q4, .inr (5, [.int 0, .int 0, .int 0, .int 0, .int 0, .int 0])), (q6, .inr (5, [.int 0, .int 0, .int 0, .int 0, .int 0, .int 0])), (q8, .inr (5, [.int 0, .int 0, .int 0, .int 0, .int 0, .int 0]))] := hD
  refine lv_iinc (v := 4) (lv' := [(3, .int 4), (0, .ref o), (1, .int n), (2, .ref d)]) B.hx B.hb dX6_init_47 hl (k := 0) rfl (by decide) (by decide) rfl (fun ls hl => ?_)
  refine lv_goto (tgt := 25) B.hx B.hb dX6_init_50 (by decide) ?_
  refine lv_iload_n B.hx B.hb dX6_init_25 rfl (lv_at hl 0 rfl) ?_
  refine lv_aload_n B.hx B.hb dX6_init_26 rfl (lv_at hl 1 rfl) ?_
  refine va_get (D := g.1) (ci := 6) (v := .ref q1) (C := RX6) (T := TX6) (N := 3) B.hx B.hb B.hw zK6.2.1 B.hown B.hE.2.1 hP 0 rfl zK6.1 2 (by decide) (B.hw _ zv_583) (fun _ h9 => h9) rfl dX6_init_27 ?_
  refine va_alen (v := 6) B.hx B.hb B.hE.2.1 hP 1 6 rfl rfl rfl dX6_init_30 ?_
  refine lv_icmp_ge (tgt := 53) B.hx B.hb dX6_init_31 (by decide) (fun c9 => absurd c9 (by decide)) (fun _ => ?_)
  refine lv_aload_n B.hx B.hb dX6_init_34 rfl (lv_at hl 1 rfl) ?_
  refine va_get (D := g.1) (ci := 6) (v := .ref q1) (C := RX6) (T := TX6) (N := 3) B.hx B.hb B.hw zK6.2.1 B.hown B.hE.2.1 hP 0 rfl zK6.1 2 (by decide) (B.hw _ zv_583) (fun _ h9 => h9) rfl dX6_init_35 ?_
  refine lv_iload_n B.hx B.hb dX6_init_38 rfl (lv_at hl 0 rfl) ?_
  refine zc_mk (ci := 5) (T := TX5) (ty := tyX5) (y := yX5_init) B zK5 zv_547 zv_549 (fun j hj => by rcases (show j = 0 ∨ j = 1 ∨ j = 2 ∨ j = 3 ∨ j = 4 ∨ j = 5 by omega) with rfl | rfl | rfl | rfl | rfl | rfl <;> rfl) (zmk_X5 l g) (Or.inr ⟨"Pointsbook", by decide +kernel⟩) zv_552 zv_57 zv_551 rfl ⟨by decide +kernel, by decide +kernel, by decide +kernel⟩ ⟨rfl, rfl⟩ ⟨(Nat.le_of_ble_eq_true rfl), (Nat.le_of_ble_eq_true rfl)⟩ (Nat.le_of_ble_eq_true rfl) (Nat.le_of_ble_eq_true rfl) hP hD hS hl.1 (Nat.le_of_ble_eq_true rfl) dX6_init_39 dX6_init_42 dX6_init_43 (fun q10 u11 H locs hP hD hS => ?_)
  have hP : va_P g.1 vwCl [(o, .inr (6, [.int n, .ref d, .ref q1])), (q1, .inl (g.2.1 6, (6, .inr (.inr (.inr (.inr (va_up (va_up (va_up (va_up (fun _ => none) 0 (some q2)) 1 (some q4)) 2 (some q6)) 3 (some q8)))))))), (q2, .inr (5, [.int 0, .int 0, .int 0, .int 0, .int 0, .int 0])), (q4, .inr (5, [.int 0, .int 0, .int 0, .int 0, .int 0, .int 0])), (q6, .inr (5, [.int 0, .int 0, .int 0, .int 0, .int 0, .int 0])), (q8, .inr (5, [.int 0, .int 0, .int 0, .int 0, .int 0, .int 0])), (q10, .inr (5, [.int 0, .int 0, .int 0, .int 0, .int 0, .int 0]))] H := hP
  have hD : va_D A [(o, .inr (6, [.int n, .ref d, .ref q1])), (q1, .inl (g.2.1 6, (6, .inr (.inr (.inr (.inr (va_up (va_up (va_up (va_up (fun _ => none) 0 (some q2)) 1 (some q4)) 2 (some q6)) 3 (some q8)))))))), (q2, .inr (5, [.int 0, .int 0, .int 0, .int 0, .int 0, .int 0])), (q4, .inr (5, [.int 0, .int 0, .int 0, .int 0, .int 0, .int 0])), (q6, .inr (5, [.int 0, .int 0, .int 0, .int 0, .int 0, .int 0])), (q8, .inr (5, [.int 0, .int 0, .int 0, .int 0, .int 0, .int 0])), (q10, .inr (5, [.int 0, .int 0, .int 0, .int 0, .int 0, .int 0]))] := hD
  refine va_astq B.hx B.hb B.hE.2.1 hP hD hS 1 6 6 5 rfl rfl rfl rfl (vp_in_nI (n := 4) (N := 6) (by decide) (by decide)) dX6_init_46 (fun H locs hP hD hS => ?_)
  have hP : va_P g.1 vwCl [(o, .inr (6, [.int n, .ref d, .ref q1])), (q1, .inl (g.2.1 6, (6, .inr (.inr (.inr (.inr (va_up (va_up (va_up (va_up (va_up (fun _ => none) 0 (some q2)) 1 (some q4)) 2 (some q6)) 3 (some q8)) 4 (some q10)))))))), (q2, .inr (5, [.int 0, .int 0, .int 0, .int 0, .int 0, .int 0])), (q4, .inr (5, [.int 0, .int 0, .int 0, .int 0, .int 0, .int 0])), (q6, .inr (5, [.int 0, .int 0, .int 0, .int 0, .int 0, .int 0])), (q8, .inr (5, [.int 0, .int 0, .int 0, .int 0, .int 0, .int 0])), (q10, .inr (5, [.int 0, .int 0, .int 0, .int 0, .int 0, .int 0]))] H := hP
  have hD : va_D A [(o, .inr (6, [.int n, .ref d, .ref q1])), (q1, .inl (g.2.1 6, (6, .inr (.inr (.inr (.inr (va_up (va_up (va_up (va_up (va_up (fun _ => none) 0 (some q2)) 1 (some q4)) 2 (some q6)) 3 (some q8)) 4 (some q10)))))))), (q2, .inr (5, [.int 0, .int 0, .int 0, .int 0, .int 0, .int 0])), (q4, .inr (5, [.int 0, .int 0, .int 0, .int 0, .int 0, .int 0])), (q6, .inr (5, [.int 0, .int 0, .int 0, .int 0, .int 0, .int 0])), (q8, .inr (5, [.int 0, .int 0, .int 0, .int 0, .int 0, .int 0])), (q10, .inr (5, [.int 0, .int 0, .int 0, .int 0, .int 0, .int 0]))] := hD
  refine lv_iinc (v := 5) (lv' := [(3, .int 5), (0, .ref o), (1, .int n), (2, .ref d)]) B.hx B.hb dX6_init_47 hl (k := 0) rfl (by decide) (by decide) rfl (fun ls hl => ?_)
  refine lv_goto (tgt := 25) B.hx B.hb dX6_init_50 (by decide) ?_
  refine lv_iload_n B.hx B.hb dX6_init_25 rfl (lv_at hl 0 rfl) ?_
  refine lv_aload_n B.hx B.hb dX6_init_26 rfl (lv_at hl 1 rfl) ?_
  refine va_get (D := g.1) (ci := 6) (v := .ref q1) (C := RX6) (T := TX6) (N := 3) B.hx B.hb B.hw zK6.2.1 B.hown B.hE.2.1 hP 0 rfl zK6.1 2 (by decide) (B.hw _ zv_583) (fun _ h9 => h9) rfl dX6_init_27 ?_
  refine va_alen (v := 6) B.hx B.hb B.hE.2.1 hP 1 6 rfl rfl rfl dX6_init_30 ?_
  refine lv_icmp_ge (tgt := 53) B.hx B.hb dX6_init_31 (by decide) (fun c9 => absurd c9 (by decide)) (fun _ => ?_)
  refine lv_aload_n B.hx B.hb dX6_init_34 rfl (lv_at hl 1 rfl) ?_
  refine va_get (D := g.1) (ci := 6) (v := .ref q1) (C := RX6) (T := TX6) (N := 3) B.hx B.hb B.hw zK6.2.1 B.hown B.hE.2.1 hP 0 rfl zK6.1 2 (by decide) (B.hw _ zv_583) (fun _ h9 => h9) rfl dX6_init_35 ?_
  refine lv_iload_n B.hx B.hb dX6_init_38 rfl (lv_at hl 0 rfl) ?_
  refine zc_mk (ci := 5) (T := TX5) (ty := tyX5) (y := yX5_init) B zK5 zv_547 zv_549 (fun j hj => by rcases (show j = 0 ∨ j = 1 ∨ j = 2 ∨ j = 3 ∨ j = 4 ∨ j = 5 by omega) with rfl | rfl | rfl | rfl | rfl | rfl <;> rfl) (zmk_X5 l g) (Or.inr ⟨"Pointsbook", by decide +kernel⟩) zv_552 zv_57 zv_551 rfl ⟨by decide +kernel, by decide +kernel, by decide +kernel⟩ ⟨rfl, rfl⟩ ⟨(Nat.le_of_ble_eq_true rfl), (Nat.le_of_ble_eq_true rfl)⟩ (Nat.le_of_ble_eq_true rfl) (Nat.le_of_ble_eq_true rfl) hP hD hS hl.1 (Nat.le_of_ble_eq_true rfl) dX6_init_39 dX6_init_42 dX6_init_43 (fun q12 u13 H locs hP hD hS => ?_)
  have hP : va_P g.1 vwCl [(o, .inr (6, [.int n, .ref d, .ref q1])), (q1, .inl (g.2.1 6, (6, .inr (.inr (.inr (.inr (va_up (va_up (va_up (va_up (va_up (fun _ => none) 0 (some q2)) 1 (some q4)) 2 (some q6)) 3 (some q8)) 4 (some q10)))))))), (q2, .inr (5, [.int 0, .int 0, .int 0, .int 0, .int 0, .int 0])), (q4, .inr (5, [.int 0, .int 0, .int 0, .int 0, .int 0, .int 0])), (q6, .inr (5, [.int 0, .int 0, .int 0, .int 0, .int 0, .int 0])), (q8, .inr (5, [.int 0, .int 0, .int 0, .int 0, .int 0, .int 0])), (q10, .inr (5, [.int 0, .int 0, .int 0, .int 0, .int 0, .int 0])), (q12, .inr (5, [.int 0, .int 0, .int 0, .int 0, .int 0, .int 0]))] H := hP
  have hD : va_D A [(o, .inr (6, [.int n, .ref d, .ref q1])), (q1, .inl (g.2.1 6, (6, .inr (.inr (.inr (.inr (va_up (va_up (va_up (va_up (va_up (fun _ => none) 0 (some q2)) 1 (some q4)) 2 (some q6)) 3 (some q8)) 4 (some q10)))))))), (q2, .inr (5, [.int 0, .int 0, .int 0, .int 0, .int 0, .int 0])), (q4, .inr (5, [.int 0, .int 0, .int 0, .int 0, .int 0, .int 0])), (q6, .inr (5, [.int 0, .int 0, .int 0, .int 0, .int 0, .int 0])), (q8, .inr (5, [.int 0, .int 0, .int 0, .int 0, .int 0, .int 0])), (q10, .inr (5, [.int 0, .int 0, .int 0, .int 0, .int 0, .int 0])), (q12, .inr (5, [.int 0, .int 0, .int 0, .int 0, .int 0, .int 0]))] := hD
  refine va_astq B.hx B.hb B.hE.2.1 hP hD hS 1 6 7 5 rfl rfl rfl rfl (vp_in_nI (n := 5) (N := 6) (by decide) (by decide)) dX6_init_46 (fun H locs hP hD hS => ?_)
  have hP : va_P g.1 vwCl [(o, .inr (6, [.int n, .ref d, .ref q1])), (q1, .inl (g.2.1 6, (6, .inr (.inr (.inr (.inr (va_up (va_up (va_up (va_up (va_up (va_up (fun _ => none) 0 (some q2)) 1 (some q4)) 2 (some q6)) 3 (some q8)) 4 (some q10)) 5 (some q12)))))))), (q2, .inr (5, [.int 0, .int 0, .int 0, .int 0, .int 0, .int 0])), (q4, .inr (5, [.int 0, .int 0, .int 0, .int 0, .int 0, .int 0])), (q6, .inr (5, [.int 0, .int 0, .int 0, .int 0, .int 0, .int 0])), (q8, .inr (5, [.int 0, .int 0, .int 0, .int 0, .int 0, .int 0])), (q10, .inr (5, [.int 0, .int 0, .int 0, .int 0, .int 0, .int 0])), (q12, .inr (5, [.int 0, .int 0, .int 0, .int 0, .int 0, .int 0]))] H := hP
  have hD : va_D A [(o, .inr (6, [.int n, .ref d, .ref q1])), (q1, .inl (g.2.1 6, (6, .inr (.inr (.inr (.inr (va_up (va_up (va_up (va_up (va_up (va_up (fun _ => none) 0 (some q2)) 1 (some q4)) 2 (some q6)) 3 (some q8)) 4 (some q10)) 5 (some q12)))))))), (q2, .inr (5, [.int 0, .int 0, .int 0, .int 0, .int 0, .int 0])), (q4, .inr (5, [.int 0, .int 0, .int 0, .int 0, .int 0, .int 0])), (q6, .inr (5, [.int 0, .int 0, .int 0, .int 0, .int 0, .int 0])), (q8, .inr (5, [.int 0, .int 0, .int 0, .int 0, .int 0, .int 0])), (q10, .inr (5, [.int 0, .int 0, .int 0, .int 0, .int 0, .int 0])), (q12, .inr (5, [.int 0, .int 0, .int 0, .int 0, .int 0, .int 0]))] := hD
  refine lv_iinc (v := 6) (lv' := [(3, .int 6), (0, .ref o), (1, .int n), (2, .ref d)]) B.hx B.hb dX6_init_47 hl (k := 0) rfl (by decide) (by decide) rfl (fun ls hl => ?_)
  refine lv_goto (tgt := 25) B.hx B.hb dX6_init_50 (by decide) ?_
  refine lv_iload_n B.hx B.hb dX6_init_25 rfl (lv_at hl 0 rfl) ?_
  refine lv_aload_n B.hx B.hb dX6_init_26 rfl (lv_at hl 1 rfl) ?_
  refine va_get (D := g.1) (ci := 6) (v := .ref q1) (C := RX6) (T := TX6) (N := 3) B.hx B.hb B.hw zK6.2.1 B.hown B.hE.2.1 hP 0 rfl zK6.1 2 (by decide) (B.hw _ zv_583) (fun _ h9 => h9) rfl dX6_init_27 ?_
  refine va_alen (v := 6) B.hx B.hb B.hE.2.1 hP 1 6 rfl rfl rfl dX6_init_30 ?_
  refine lv_icmp_ge (tgt := 53) B.hx B.hb dX6_init_31 (by decide) (fun _ => ?_) (fun c9 => absurd (by decide) c9)
  exact zc_vret (w1 := w_X6 g n d) [q1, q2, q4, q6, q8, q10, q12] B hr hlk hP hD hS dX6_init_53
end
section
theorem dX7_init_0 : decode cX7_init 0 = .ok (.aload_n 0, 1) := by decide +kernel
theorem dX7_init_1 : decode cX7_init 1 = .ok (.invokespecial 1, 3) := by decide +kernel
theorem dX7_init_4 : decode cX7_init 4 = .ok (.aload_n 0, 1) := by decide +kernel
theorem dX7_init_5 : decode cX7_init 5 = .ok (.bipush 6, 2) := by decide +kernel
theorem dX7_init_7 : decode cX7_init 7 = .ok (.anewarray 9, 3) := by decide +kernel
theorem dX7_init_10 : decode cX7_init 10 = .ok (.putfield 11, 3) := by decide +kernel
theorem dX7_init_13 : decode cX7_init 13 = .ok (.aload_n 0, 1) := by decide +kernel
theorem dX7_init_14 : decode cX7_init 14 = .ok (.bipush 20, 2) := by decide +kernel
theorem dX7_init_16 : decode cX7_init 16 = .ok (.anewarray 15, 3) := by decide +kernel
theorem dX7_init_19 : decode cX7_init 19 = .ok (.putfield 17, 3) := by decide +kernel
theorem dX7_init_22 : decode cX7_init 22 = .ok (.aload_n 0, 1) := by decide +kernel
theorem dX7_init_23 : decode cX7_init 23 = .ok (.bipush 6, 2) := by decide +kernel
theorem dX7_init_25 : decode cX7_init 25 = .ok (.anewarray 21, 3) := by decide +kernel
theorem dX7_init_28 : decode cX7_init 28 = .ok (.putfield 23, 3) := by decide +kernel
theorem dX7_init_31 : decode cX7_init 31 = .ok (.aload_n 0, 1) := by decide +kernel
theorem dX7_init_32 : decode cX7_init 32 = .ok (.bipush 6, 2) := by decide +kernel
theorem dX7_init_34 : decode cX7_init 34 = .ok (.anewarray 27, 3) := by decide +kernel
theorem dX7_init_37 : decode cX7_init 37 = .ok (.putfield 29, 3) := by decide +kernel
theorem dX7_init_40 : decode cX7_init 40 = .ok (.aload_n 0, 1) := by decide +kernel
theorem dX7_init_41 : decode cX7_init 41 = .ok (.bipush 6, 2) := by decide +kernel
theorem dX7_init_43 : decode cX7_init 43 = .ok (.anewarray 33, 3) := by decide +kernel
theorem dX7_init_46 : decode cX7_init 46 = .ok (.putfield 35, 3) := by decide +kernel
theorem dX7_init_49 : decode cX7_init 49 = .ok (.aload_n 0, 1) := by decide +kernel
theorem dX7_init_50 : decode cX7_init 50 = .ok (.new 39, 3) := by decide +kernel
theorem dX7_init_53 : decode cX7_init 53 = .ok (.dup, 1) := by decide +kernel
theorem dX7_init_54 : decode cX7_init 54 = .ok (.invokespecial 41, 3) := by decide +kernel
theorem dX7_init_57 : decode cX7_init 57 = .ok (.putfield 42, 3) := by decide +kernel
theorem dX7_init_60 : decode cX7_init 60 = .ok (.aload_n 0, 1) := by decide +kernel
theorem dX7_init_61 : decode cX7_init 61 = .ok (.sipush 3001, 3) := by decide +kernel
theorem dX7_init_64 : decode cX7_init 64 = .ok (.newarray .int, 2) := by decide +kernel
theorem dX7_init_66 : decode cX7_init 66 = .ok (.putfield 46, 3) := by decide +kernel
theorem dX7_init_69 : decode cX7_init 69 = .ok (.aload_n 0, 1) := by decide +kernel
theorem dX7_init_70 : decode cX7_init 70 = .ok (.iconst 0, 1) := by decide +kernel
theorem dX7_init_71 : decode cX7_init 71 = .ok (.putfield 50, 3) := by decide +kernel
theorem dX7_init_74 : decode cX7_init 74 = .ok (.aload_n 0, 1) := by decide +kernel
theorem dX7_init_75 : decode cX7_init 75 = .ok (.iconst 0, 1) := by decide +kernel
theorem dX7_init_76 : decode cX7_init 76 = .ok (.putfield 54, 3) := by decide +kernel
theorem dX7_init_79 : decode cX7_init 79 = .ok (.aload_n 0, 1) := by decide +kernel
theorem dX7_init_80 : decode cX7_init 80 = .ok (.iconst 0, 1) := by decide +kernel
theorem dX7_init_81 : decode cX7_init 81 = .ok (.putfield 57, 3) := by decide +kernel
theorem dX7_init_84 : decode cX7_init 84 = .ok (.aload_n 0, 1) := by decide +kernel
theorem dX7_init_85 : decode cX7_init 85 = .ok (.iconst 0, 1) := by decide +kernel
theorem dX7_init_86 : decode cX7_init 86 = .ok (.putfield 60, 3) := by decide +kernel
theorem dX7_init_89 : decode cX7_init 89 = .ok (.aload_n 0, 1) := by decide +kernel
theorem dX7_init_90 : decode cX7_init 90 = .ok (.bipush 20, 2) := by decide +kernel
theorem dX7_init_92 : decode cX7_init 92 = .ok (.putfield 63, 3) := by decide +kernel
theorem dX7_init_95 : decode cX7_init 95 = .ok (.aload_n 0, 1) := by decide +kernel
theorem dX7_init_96 : decode cX7_init 96 = .ok (.iconst 2, 1) := by decide +kernel
theorem dX7_init_97 : decode cX7_init 97 = .ok (.putfield 66, 3) := by decide +kernel
theorem dX7_init_100 : decode cX7_init 100 = .ok (.aload_n 0, 1) := by decide +kernel
theorem dX7_init_101 : decode cX7_init 101 = .ok (.iconst 0, 1) := by decide +kernel
theorem dX7_init_102 : decode cX7_init 102 = .ok (.putfield 69, 3) := by decide +kernel
theorem dX7_init_105 : decode cX7_init 105 = .ok (.aload_n 0, 1) := by decide +kernel
theorem dX7_init_106 : decode cX7_init 106 = .ok (.iconst 0, 1) := by decide +kernel
theorem dX7_init_107 : decode cX7_init 107 = .ok (.putfield 72, 3) := by decide +kernel
theorem dX7_init_110 : decode cX7_init 110 = .ok (.aload_n 0, 1) := by decide +kernel
theorem dX7_init_111 : decode cX7_init 111 = .ok (.iconst 0, 1) := by decide +kernel
theorem dX7_init_112 : decode cX7_init 112 = .ok (.putfield 75, 3) := by decide +kernel
theorem dX7_init_115 : decode cX7_init 115 = .ok (.aload_n 0, 1) := by decide +kernel
theorem dX7_init_116 : decode cX7_init 116 = .ok (.iconst 0, 1) := by decide +kernel
theorem dX7_init_117 : decode cX7_init 117 = .ok (.putfield 78, 3) := by decide +kernel
theorem dX7_init_120 : decode cX7_init 120 = .ok (.aload_n 0, 1) := by decide +kernel
theorem dX7_init_121 : decode cX7_init 121 = .ok (.iconst 0, 1) := by decide +kernel
theorem dX7_init_122 : decode cX7_init 122 = .ok (.putfield 81, 3) := by decide +kernel
theorem dX7_init_125 : decode cX7_init 125 = .ok (.aload_n 0, 1) := by decide +kernel
theorem dX7_init_126 : decode cX7_init 126 = .ok (.iconst 0, 1) := by decide +kernel
theorem dX7_init_127 : decode cX7_init 127 = .ok (.putfield 84, 3) := by decide +kernel
theorem dX7_init_130 : decode cX7_init 130 = .ok (.iconst 0, 1) := by decide +kernel
theorem dX7_init_131 : decode cX7_init 131 = .ok (.istore_n 1, 1) := by decide +kernel
theorem dX7_init_132 : decode cX7_init 132 = .ok (.iload_n 1, 1) := by decide +kernel
theorem dX7_init_133 : decode cX7_init 133 = .ok (.aload_n 0, 1) := by decide +kernel
theorem dX7_init_134 : decode cX7_init 134 = .ok (.getfield 11, 3) := by decide +kernel
theorem dX7_init_137 : decode cX7_init 137 = .ok (.arraylength, 1) := by decide +kernel
theorem dX7_init_138 : decode cX7_init 138 = .ok (.if_icmp .ge 22, 3) := by decide +kernel
theorem dX7_init_141 : decode cX7_init 141 = .ok (.aload_n 0, 1) := by decide +kernel
theorem dX7_init_142 : decode cX7_init 142 = .ok (.getfield 11, 3) := by decide +kernel
theorem dX7_init_145 : decode cX7_init 145 = .ok (.iload_n 1, 1) := by decide +kernel
theorem dX7_init_146 : decode cX7_init 146 = .ok (.new 9, 3) := by decide +kernel
theorem dX7_init_149 : decode cX7_init 149 = .ok (.dup, 1) := by decide +kernel
theorem dX7_init_150 : decode cX7_init 150 = .ok (.invokespecial 87, 3) := by decide +kernel
theorem dX7_init_153 : decode cX7_init 153 = .ok (.aastore, 1) := by decide +kernel
theorem dX7_init_154 : decode cX7_init 154 = .ok (.iinc 1 1, 3) := by decide +kernel
theorem dX7_init_157 : decode cX7_init 157 = .ok (.goto (-25), 3) := by decide +kernel
theorem dX7_init_160 : decode cX7_init 160 = .ok (.return_, 1) := by decide +kernel
def w_X7 (g : ZG) (o : Nat) (qs : List Nat) : va_W := [(o, .inr (7, [.ref (qs.getD 0 0), .ref (qs.getD 1 0), .ref (qs.getD 2 0), .ref (qs.getD 3 0), .ref (qs.getD 4 0), .ref (qs.getD 5 0), .ref (qs.getD 10 0), .int 0, .int 0, .int 0, .int 0, .int 20, .int 2, .int 0, .int 0, .int 0, .int 0, .int 0, .int 0])), ((qs.getD 0 0), .inl (g.2.1 4, (6, .inr (.inr (.inr (.inr (va_up (va_up (va_up (va_up (va_up (va_up (fun _ => none) 0 (some (qs.getD 11 0))) 1 (some (qs.getD 12 0))) 2 (some (qs.getD 13 0))) 3 (some (qs.getD 14 0))) 4 (some (qs.getD 15 0))) 5 (some (qs.getD 16 0))))))))), ((qs.getD 1 0), .inl (g.2.1 5, (20, .inr (.inr (.inr (.inr (fun _ => none))))))), ((qs.getD 2 0), .inl (g.2.1 2, (6, .inr (.inr (.inr (.inr (fun _ => none))))))), ((qs.getD 3 0), .inl (g.2.1 7, (6, .inr (.inr (.inr (.inr (fun _ => none))))))), ((qs.getD 4 0), .inl (g.2.1 3, (6, .inr (.inr (.inr (.inr (fun _ => none))))))), ((qs.getD 5 0), .inr (4, [.ref (qs.getD 6 0), .ref (qs.getD 7 0), .ref (qs.getD 8 0), .ref (qs.getD 9 0), .int 0])), ((qs.getD 6 0), .inl (g.2.1 0, (512, .inl (fun _ => 0)))), ((qs.getD 7 0), .inl (g.2.1 0, (512, .inl (fun _ => 0)))), ((qs.getD 8 0), .inl (g.2.1 0, (512, .inl (fun _ => 0)))), ((qs.getD 9 0), .inl (g.2.1 0, (512, .inl (fun _ => 0)))), ((qs.getD 10 0), .inl (g.2.1 0, (3001, .inl (fun _ => 0)))), ((qs.getD 11 0), .inr (2, [.int 0, .int 0, .int 0, .int 0, .int 0])), ((qs.getD 12 0), .inr (2, [.int 0, .int 0, .int 0, .int 0, .int 0])), ((qs.getD 13 0), .inr (2, [.int 0, .int 0, .int 0, .int 0, .int 0])), ((qs.getD 14 0), .inr (2, [.int 0, .int 0, .int 0, .int 0, .int 0])), ((qs.getD 15 0), .inr (2, [.int 0, .int 0, .int 0, .int 0, .int 0])), ((qs.getD 16 0), .inr (2, [.int 0, .int 0, .int 0, .int 0, .int 0]))]
set_option maxRecDepth 100000 in
set_option maxHeartbeats 4000000 in
theorem zmk_X7 (l : Launch) (g : ZG) : zMk l yX7_init cX7_init 2 { frames := 2, cells := 17, slots := 5128, locals := 32 } 17 5128 g [] 7 [.null, .null, .null, .null, .null, .null, .null, .int 0, .int 0, .int 0, .int 0, .int 0, .int 0, .int 0, .int 0, .int 0, .int 0, .int 0, .int 0] (w_X7 g) := by
  refine zMk_of (by decide +kernel) rfl (fun o => (Nat.le_of_ble_eq_true rfl)) (fun o p e s m args below meth c A ls B hin hr hlk hP hD hS hl => ?_)
  have hl : lv_has ls 2 [(0, .ref o)] := hl
  refine lv_aload_n B.hx B.hb dX7_init_0 rfl (lv_at hl 0 rfl) ?_
  refine zc_obj B ⟨(Nat.le_of_ble_eq_true rfl), (Nat.le_of_ble_eq_true rfl)⟩ hl.1 zv_64 zv_65 zv_66 dX7_init_1 ?_
  refine lv_aload_n B.hx B.hb dX7_init_4 rfl (lv_at hl 0 rfl) ?_
  refine lv_bipush (v := 6) B.hx B.hb dX7_init_5 (by decide) ?_
  refine zc_newq (C := "Pointsbook$Good") (k := 4) (N' := 6) B (by decide +kernel) zv_67 (fun _ => rfl) hP hD hS (by decide) rfl (Nat.le_of_ble_eq_true rfl) (Nat.le_of_ble_eq_true rfl) (Nat.le_of_ble_eq_true rfl) dX7_init_7 (fun q1 H hP hD hS => ?_)
  refine zc_put (f := 0) (ft := tyX7 0) B hin zK7 (by decide) zv_126 rfl rfl (tyX7_ok 0 (by decide)) rfl rfl rfl hP hD hS dX7_init_10 (fun H locs hP hD hS hfl => ?_)
  refine lv_aload_n B.hx B.hb dX7_init_13 rfl (lv_at hl 0 rfl) ?_
  refine lv_bipush (v := 20) B.hx B.hb dX7_init_14 (by decide) ?_
  refine zc_newq (C := "Pointsbook$Person") (k := 5) (N' := 20) B (by decide +kernel) zv_69 (fun _ => rfl) hP hD hS (by decide) rfl (Nat.le_of_ble_eq_true rfl) (Nat.le_of_ble_eq_true rfl) (Nat.le_of_ble_eq_true rfl) dX7_init_16 (fun q2 H hP hD hS => ?_)
  refine zc_put (f := 1) (ft := tyX7 1) B hin zK7 (by decide) zv_127 rfl rfl (tyX7_ok 1 (by decide)) rfl rfl hfl hP hD hS dX7_init_19 (fun H locs hP hD hS hfl => ?_)
  refine lv_aload_n B.hx B.hb dX7_init_22 rfl (lv_at hl 0 rfl) ?_
  refine lv_bipush (v := 6) B.hx B.hb dX7_init_23 (by decide) ?_
  refine zc_newq (C := "Pointsbook$Depot") (k := 2) (N' := 6) B (by decide +kernel) zv_71 (fun _ => rfl) hP hD hS (by decide) rfl (Nat.le_of_ble_eq_true rfl) (Nat.le_of_ble_eq_true rfl) (Nat.le_of_ble_eq_true rfl) dX7_init_25 (fun q3 H hP hD hS => ?_)
  refine zc_put (f := 2) (ft := tyX7 2) B hin zK7 (by decide) zv_128 rfl rfl (tyX7_ok 2 (by decide)) rfl rfl hfl hP hD hS dX7_init_28 (fun H locs hP hD hS hfl => ?_)
  refine lv_aload_n B.hx B.hb dX7_init_31 rfl (lv_at hl 0 rfl) ?_
  refine lv_bipush (v := 6) B.hx B.hb dX7_init_32 (by decide) ?_
  refine zc_newq (C := "Pointsbook$Shop") (k := 7) (N' := 6) B (by decide +kernel) zv_73 (fun _ => rfl) hP hD hS (by decide) rfl (Nat.le_of_ble_eq_true rfl) (Nat.le_of_ble_eq_true rfl) (Nat.le_of_ble_eq_true rfl) dX7_init_34 (fun q4 H hP hD hS => ?_)
  refine zc_put (f := 3) (ft := tyX7 3) B hin zK7 (by decide) zv_129 rfl rfl (tyX7_ok 3 (by decide)) rfl rfl hfl hP hD hS dX7_init_37 (fun H locs hP hD hS hfl => ?_)
  refine lv_aload_n B.hx B.hb dX7_init_40 rfl (lv_at hl 0 rfl) ?_
  refine lv_bipush (v := 6) B.hx B.hb dX7_init_41 (by decide) ?_
  refine zc_newq (C := "Pointsbook$Farm") (k := 3) (N' := 6) B (by decide +kernel) zv_75 (fun _ => rfl) hP hD hS (by decide) rfl (Nat.le_of_ble_eq_true rfl) (Nat.le_of_ble_eq_true rfl) (Nat.le_of_ble_eq_true rfl) dX7_init_43 (fun q5 H hP hD hS => ?_)
  refine zc_put (f := 4) (ft := tyX7 4) B hin zK7 (by decide) zv_130 rfl rfl (tyX7_ok 4 (by decide)) rfl rfl hfl hP hD hS dX7_init_46 (fun H locs hP hD hS hfl => ?_)
  refine lv_aload_n B.hx B.hb dX7_init_49 rfl (lv_at hl 0 rfl) ?_
  refine zc_mk (ci := 4) (T := TX4) (ty := tyX4) (y := yX4_init) B zK4 zv_77 zv_78 (fun j hj => by rcases (show j = 0 ∨ j = 1 ∨ j = 2 ∨ j = 3 ∨ j = 4 by omega) with rfl | rfl | rfl | rfl | rfl <;> rfl) (zmk_X4 l g) (Or.inr ⟨"Pointsbook", by decide +kernel⟩) zv_81 zv_44 zv_80 rfl ⟨by decide +kernel, by decide +kernel, by decide +kernel⟩ ⟨rfl, rfl⟩ ⟨(Nat.le_of_ble_eq_true rfl), (Nat.le_of_ble_eq_true rfl)⟩ (Nat.le_of_ble_eq_true rfl) (Nat.le_of_ble_eq_true rfl) hP hD hS hl.1 (Nat.le_of_ble_eq_true rfl) dX7_init_50 dX7_init_53 dX7_init_54 (fun q6 u7 H locs hP hD hS => ?_)
  have hP : va_P g.1 vwCl [(o, .inr (7, [.ref q1, .ref q2, .ref q3, .ref q4, .ref q5, .null, .null, .int 0, .int 0, .int 0, .int 0, .int 0, .int 0, .int 0, .int 0, .int 0, .int 0, .int 0, .int 0])), (q1, .inl (g.2.1 4, (6, .inr (.inr (.inr (.inr (fun _ => none))))))), (q2, .inl (g.2.1 5, (20, .inr (.inr (.inr (.inr (fun _ => none))))))), (q3, .inl (g.2.1 2, (6, .inr (.inr (.inr (.inr (fun _ => none))))))), (q4, .inl (g.2.1 7, (6, .inr (.inr (.inr (.inr (fun _ => none))))))), (q5, .inl (g.2.1 3, (6, .inr (.inr (.inr (.inr (fun _ => none))))))), (q6, .inr (4, [.ref (u7.getD 0 0), .ref (u7.getD 1 0), .ref (u7.getD 2 0), .ref (u7.getD 3 0), .int 0])), ((u7.getD 0 0), .inl (g.2.1 0, (512, .inl (fun _ => 0)))), ((u7.getD 1 0), .inl (g.2.1 0, (512, .inl (fun _ => 0)))), ((u7.getD 2 0), .inl (g.2.1 0, (512, .inl (fun _ => 0)))), ((u7.getD 3 0), .inl (g.2.1 0, (512, .inl (fun _ => 0))))] H := hP
  have hD : va_D A [(o, .inr (7, [.ref q1, .ref q2, .ref q3, .ref q4, .ref q5, .null, .null, .int 0, .int 0, .int 0, .int 0, .int 0, .int 0, .int 0, .int 0, .int 0, .int 0, .int 0, .int 0])), (q1, .inl (g.2.1 4, (6, .inr (.inr (.inr (.inr (fun _ => none))))))), (q2, .inl (g.2.1 5, (20, .inr (.inr (.inr (.inr (fun _ => none))))))), (q3, .inl (g.2.1 2, (6, .inr (.inr (.inr (.inr (fun _ => none))))))), (q4, .inl (g.2.1 7, (6, .inr (.inr (.inr (.inr (fun _ => none))))))), (q5, .inl (g.2.1 3, (6, .inr (.inr (.inr (.inr (fun _ => none))))))), (q6, .inr (4, [.ref (u7.getD 0 0), .ref (u7.getD 1 0), .ref (u7.getD 2 0), .ref (u7.getD 3 0), .int 0])), ((u7.getD 0 0), .inl (g.2.1 0, (512, .inl (fun _ => 0)))), ((u7.getD 1 0), .inl (g.2.1 0, (512, .inl (fun _ => 0)))), ((u7.getD 2 0), .inl (g.2.1 0, (512, .inl (fun _ => 0)))), ((u7.getD 3 0), .inl (g.2.1 0, (512, .inl (fun _ => 0))))] := hD
  refine zc_put (f := 5) (ft := tyX7 5) B hin zK7 (by decide) zv_131 rfl rfl (tyX7_ok 5 (by decide)) rfl rfl hfl hP hD hS dX7_init_57 (fun H locs hP hD hS hfl => ?_)
  refine lv_aload_n B.hx B.hb dX7_init_60 rfl (lv_at hl 0 rfl) ?_
  refine lv_sipush (v := 3001) B.hx B.hb dX7_init_61 (by decide) ?_
  refine zc_newT (k := 0) (ty := .int) (a0 := (3001, .inl (fun _ => 0))) (N' := 3001) B zv_99 rfl (fun _ => rfl) (fun _ h => h) (fun _ => rfl) hP hD hS (by decide) rfl (Nat.le_of_ble_eq_true rfl) (Nat.le_of_ble_eq_true rfl) (Nat.le_of_ble_eq_true rfl) dX7_init_64 (fun q8 H hP hD hS => ?_)
  refine zc_put (f := 6) (ft := tyX7 6) B hin zK7 (by decide) zv_132 rfl rfl (tyX7_ok 6 (by decide)) rfl rfl hfl hP hD hS dX7_init_66 (fun H locs hP hD hS hfl => ?_)
  refine lv_aload_n B.hx B.hb dX7_init_69 rfl (lv_at hl 0 rfl) ?_
  refine lv_iconst (v := 0) B.hx B.hb dX7_init_70 (by decide) ?_
  refine zc_put (f := 7) (ft := tyX7 7) B hin zK7 (by decide) zv_133 rfl rfl (tyX7_ok 7 (by decide)) rfl rfl hfl hP hD hS dX7_init_71 (fun H locs hP hD hS hfl => ?_)
  refine lv_aload_n B.hx B.hb dX7_init_74 rfl (lv_at hl 0 rfl) ?_
  refine lv_iconst (v := 0) B.hx B.hb dX7_init_75 (by decide) ?_
  refine zc_put (f := 8) (ft := tyX7 8) B hin zK7 (by decide) zv_134 rfl rfl (tyX7_ok 8 (by decide)) rfl rfl hfl hP hD hS dX7_init_76 (fun H locs hP hD hS hfl => ?_)
  refine lv_aload_n B.hx B.hb dX7_init_79 rfl (lv_at hl 0 rfl) ?_
  refine lv_iconst (v := 0) B.hx B.hb dX7_init_80 (by decide) ?_
  refine zc_put (f := 9) (ft := tyX7 9) B hin zK7 (by decide) zv_135 rfl rfl (tyX7_ok 9 (by decide)) rfl rfl hfl hP hD hS dX7_init_81 (fun H locs hP hD hS hfl => ?_)
  refine lv_aload_n B.hx B.hb dX7_init_84 rfl (lv_at hl 0 rfl) ?_
  refine lv_iconst (v := 0) B.hx B.hb dX7_init_85 (by decide) ?_
  refine zc_put (f := 10) (ft := tyX7 10) B hin zK7 (by decide) zv_136 rfl rfl (tyX7_ok 10 (by decide)) rfl rfl hfl hP hD hS dX7_init_86 (fun H locs hP hD hS hfl => ?_)
  refine lv_aload_n B.hx B.hb dX7_init_89 rfl (lv_at hl 0 rfl) ?_
  refine lv_bipush (v := 20) B.hx B.hb dX7_init_90 (by decide) ?_
  refine zc_put (f := 11) (ft := tyX7 11) B hin zK7 (by decide) zv_137 rfl rfl (tyX7_ok 11 (by decide)) rfl rfl hfl hP hD hS dX7_init_92 (fun H locs hP hD hS hfl => ?_)
  refine lv_aload_n B.hx B.hb dX7_init_95 rfl (lv_at hl 0 rfl) ?_
  refine lv_iconst (v := 2) B.hx B.hb dX7_init_96 (by decide) ?_
  refine zc_put (f := 12) (ft := tyX7 12) B hin zK7 (by decide) zv_138 rfl rfl (tyX7_ok 12 (by decide)) rfl rfl hfl hP hD hS dX7_init_97 (fun H locs hP hD hS hfl => ?_)
  refine lv_aload_n B.hx B.hb dX7_init_100 rfl (lv_at hl 0 rfl) ?_
  refine lv_iconst (v := 0) B.hx B.hb dX7_init_101 (by decide) ?_
  refine zc_put (f := 13) (ft := tyX7 13) B hin zK7 (by decide) zv_139 rfl rfl (tyX7_ok 13 (by decide)) rfl rfl hfl hP hD hS dX7_init_102 (fun H locs hP hD hS hfl => ?_)
  refine lv_aload_n B.hx B.hb dX7_init_105 rfl (lv_at hl 0 rfl) ?_
  refine lv_iconst (v := 0) B.hx B.hb dX7_init_106 (by decide) ?_
  refine zc_put (f := 14) (ft := tyX7 14) B hin zK7 (by decide) zv_140 rfl rfl (tyX7_ok 14 (by decide)) rfl rfl hfl hP hD hS dX7_init_107 (fun H locs hP hD hS hfl => ?_)
  refine lv_aload_n B.hx B.hb dX7_init_110 rfl (lv_at hl 0 rfl) ?_
  refine lv_iconst (v := 0) B.hx B.hb dX7_init_111 (by decide) ?_
  refine zc_put (f := 15) (ft := tyX7 15) B hin zK7 (by decide) zv_141 rfl rfl (tyX7_ok 15 (by decide)) rfl rfl hfl hP hD hS dX7_init_112 (fun H locs hP hD hS hfl => ?_)
  refine lv_aload_n B.hx B.hb dX7_init_115 rfl (lv_at hl 0 rfl) ?_
  refine lv_iconst (v := 0) B.hx B.hb dX7_init_116 (by decide) ?_
  refine zc_put (f := 16) (ft := tyX7 16) B hin zK7 (by decide) zv_142 rfl rfl (tyX7_ok 16 (by decide)) rfl rfl hfl hP hD hS dX7_init_117 (fun H locs hP hD hS hfl => ?_)
  refine lv_aload_n B.hx B.hb dX7_init_120 rfl (lv_at hl 0 rfl) ?_
  refine lv_iconst (v := 0) B.hx B.hb dX7_init_121 (by decide) ?_
  refine zc_put (f := 17) (ft := tyX7 17) B hin zK7 (by decide) zv_143 rfl rfl (tyX7_ok 17 (by decide)) rfl rfl hfl hP hD hS dX7_init_122 (fun H locs hP hD hS hfl => ?_)
  refine lv_aload_n B.hx B.hb dX7_init_125 rfl (lv_at hl 0 rfl) ?_
  refine lv_iconst (v := 0) B.hx B.hb dX7_init_126 (by decide) ?_
  refine zc_put (f := 18) (ft := tyX7 18) B hin zK7 (by decide) zv_144 rfl rfl (tyX7_ok 18 (by decide)) rfl rfl hfl hP hD hS dX7_init_127 (fun H locs hP hD hS hfl => ?_)
  refine lv_iconst (v := 0) B.hx B.hb dX7_init_130 (by decide) ?_
  refine lv_istore_n (lv' := [(1, .int 0), (0, .ref o)]) B.hx B.hb dX7_init_131 rfl hl (by decide) rfl (fun ls hl => ?_)
  have hP : va_P g.1 vwCl [(o, .inr (7, [.ref q1, .ref q2, .ref q3, .ref q4, .ref q5, .ref q6, .ref q8, .int 0, .int 0, .int 0, .int 0, .int 20, .int 2, .int 0, .int 0, .int 0, .int 0, .int 0, .int 0])), (q1, .inl (g.2.1 4, (6, .inr (.inr (.inr (.inr (fun _ => none))))))), (q2, .inl (g.2.1 5, (20, .inr (.inr (.inr (.inr (fun _ => none))))))), (q3, .inl (g.2.1 2, (6, .inr (.inr (.inr (.inr (fun _ => none))))))), (q4, .inl (g.2.1 7, (6, .inr (.inr (.inr (.inr (fun _ => none))))))), (q5, .inl (g.2.1 3, (6, .inr (.inr (.inr (.inr (fun _ => none))))))), (q6, .inr (4, [.ref (u7.getD 0 0), .ref (u7.getD 1 0), .ref (u7.getD 2 0), .ref (u7.getD 3 0), .int 0])), ((u7.getD 0 0), .inl (g.2.1 0, (512, .inl (fun _ => 0)))), ((u7.getD 1 0), .inl (g.2.1 0, (512, .inl (fun _ => 0)))), ((u7.getD 2 0), .inl (g.2.1 0, (512, .inl (fun _ => 0)))), ((u7.getD 3 0), .inl (g.2.1 0, (512, .inl (fun _ => 0)))), (q8, .inl (g.2.1 0, (3001, .inl (fun _ => 0))))] H := hP
  have hD : va_D A [(o, .inr (7, [.ref q1, .ref q2, .ref q3, .ref q4, .ref q5, .ref q6, .ref q8, .int 0, .int 0, .int 0, .int 0, .int 20, .int 2, .int 0, .int 0, .int 0, .int 0, .int 0, .int 0])), (q1, .inl (g.2.1 4, (6, .inr (.inr (.inr (.inr (fun _ => none))))))), (q2, .inl (g.2.1 5, (20, .inr (.inr (.inr (.inr (fun _ => none))))))), (q3, .inl (g.2.1 2, (6, .inr (.inr (.inr (.inr (fun _ => none))))))), (q4, .inl (g.2.1 7, (6, .inr (.inr (.inr (.inr (fun _ => none))))))), (q5, .inl (g.2.1 3, (6, .inr (.inr (.inr (.inr (fun _ => none))))))), (q6, .inr (4, [.ref (u7.getD 0 0), .ref (u7.getD 1 0), .ref (u7.getD 2 0), .ref (u7.getD 3 0), .int 0])), ((u7.getD 0 0), .inl (g.2.1 0, (512, .inl (fun _ => 0)))), ((u7.getD 1 0), .inl (g.2.1 0, (512, .inl (fun _ => 0)))), ((u7.getD 2 0), .inl (g.2.1 0, (512, .inl (fun _ => 0)))), ((u7.getD 3 0), .inl (g.2.1 0, (512, .inl (fun _ => 0)))), (q8, .inl (g.2.1 0, (3001, .inl (fun _ => 0))))] := hD
  refine lv_iload_n B.hx B.hb dX7_init_132 rfl (lv_at hl 0 rfl) ?_
  refine lv_aload_n B.hx B.hb dX7_init_133 rfl (lv_at hl 1 rfl) ?_
  refine va_get (D := g.1) (ci := 7) (v := .ref q1) (C := RX7) (T := TX7) (N := 19) B.hx B.hb B.hw zK7.2.1 B.hown B.hE.2.1 hP 0 rfl zK7.1 0 (by decide) (B.hw _ zv_126) (fun _ h9 => h9) rfl dX7_init_134 ?_
  refine va_alen (v := 6) B.hx B.hb B.hE.2.1 hP 1 4 rfl rfl rfl dX7_init_137 ?_
  refine lv_icmp_ge (tgt := 160) B.hx B.hb dX7_init_138 (by decide) (fun c9 => absurd c9 (by decide)) (fun _ => ?_)
  refine lv_aload_n B.hx B.hb dX7_init_141 rfl (lv_at hl 1 rfl) ?_
  refine va_get (D := g.1) (ci := 7) (v := .ref q1) (C := RX7) (T := TX7) (N := 19) B.hx B.hb B.hw zK7.2.1 B.hown B.hE.2.1 hP 0 rfl zK7.1 0 (by decide) (B.hw _ zv_126) (fun _ h9 => h9) rfl dX7_init_142 ?_
  refine lv_iload_n B.hx B.hb dX7_init_145 rfl (lv_at hl 0 rfl) ?_
  refine zc_mk (ci := 2) (T := TX2) (ty := tyX2) (y := yX2_init) B zK2 zv_67 zv_100 (fun j hj => by rcases (show j = 0 ∨ j = 1 ∨ j = 2 ∨ j = 3 ∨ j = 4 by omega) with rfl | rfl | rfl | rfl | rfl <;> rfl) (zmk_X2 l g) (Or.inr ⟨"Pointsbook", by decide +kernel⟩) zv_103 zv_45 zv_102 rfl ⟨by decide +kernel, by decide +kernel, by decide +kernel⟩ ⟨rfl, rfl⟩ ⟨(Nat.le_of_ble_eq_true rfl), (Nat.le_of_ble_eq_true rfl)⟩ (Nat.le_of_ble_eq_true rfl) (Nat.le_of_ble_eq_true rfl) hP hD hS hl.1 (Nat.le_of_ble_eq_true rfl) dX7_init_146 dX7_init_149 dX7_init_150 (fun q9 u10 H locs hP hD hS => ?_)
  have hP : va_P g.1 vwCl [(o, .inr (7, [.ref q1, .ref q2, .ref q3, .ref q4, .ref q5, .ref q6, .ref q8, .int 0, .int 0, .int 0, .int 0, .int 20, .int 2, .int 0, .int 0, .int 0, .int 0, .int 0, .int 0])), (q1, .inl (g.2.1 4, (6, .inr (.inr (.inr (.inr (fun _ => none))))))), (q2, .inl (g.2.1 5, (20, .inr (.inr (.inr (.inr (fun _ => none))))))), (q3, .inl (g.2.1 2, (6, .inr (.inr (.inr (.inr (fun _ => none))))))), (q4, .inl (g.2.1 7, (6, .inr (.inr (.inr (.inr (fun _ => none))))))), (q5, .inl (g.2.1 3, (6, .inr (.inr (.inr (.inr (fun _ => none))))))), (q6, .inr (4, [.ref (u7.getD 0 0), .ref (u7.getD 1 0), .ref (u7.getD 2 0), .ref (u7.getD 3 0), .int 0])), ((u7.getD 0 0), .inl (g.2.1 0, (512, .inl (fun _ => 0)))), ((u7.getD 1 0), .inl (g.2.1 0, (512, .inl (fun _ => 0)))), ((u7.getD 2 0), .inl (g.2.1 0, (512, .inl (fun _ => 0)))), ((u7.getD 3 0), .inl (g.2.1 0, (512, .inl (fun _ => 0)))), (q8, .inl (g.2.1 0, (3001, .inl (fun _ => 0)))), (q9, .inr (2, [.int 0, .int 0, .int 0, .int 0, .int 0]))] H := hP
  have hD : va_D A [(o, .inr (7, [.ref q1, .ref q2, .ref q3, .ref q4, .ref q5, .ref q6, .ref q8, .int 0, .int 0, .int 0, .int 0, .int 20, .int 2, .int 0, .int 0, .int 0, .int 0, .int 0, .int 0])), (q1, .inl (g.2.1 4, (6, .inr (.inr (.inr (.inr (fun _ => none))))))), (q2, .inl (g.2.1 5, (20, .inr (.inr (.inr (.inr (fun _ => none))))))), (q3, .inl (g.2.1 2, (6, .inr (.inr (.inr (.inr (fun _ => none))))))), (q4, .inl (g.2.1 7, (6, .inr (.inr (.inr (.inr (fun _ => none))))))), (q5, .inl (g.2.1 3, (6, .inr (.inr (.inr (.inr (fun _ => none))))))), (q6, .inr (4, [.ref (u7.getD 0 0), .ref (u7.getD 1 0), .ref (u7.getD 2 0), .ref (u7.getD 3 0), .int 0])), ((u7.getD 0 0), .inl (g.2.1 0, (512, .inl (fun _ => 0)))), ((u7.getD 1 0), .inl (g.2.1 0, (512, .inl (fun _ => 0)))), ((u7.getD 2 0), .inl (g.2.1 0, (512, .inl (fun _ => 0)))), ((u7.getD 3 0), .inl (g.2.1 0, (512, .inl (fun _ => 0)))), (q8, .inl (g.2.1 0, (3001, .inl (fun _ => 0)))), (q9, .inr (2, [.int 0, .int 0, .int 0, .int 0, .int 0]))] := hD
  refine va_astq B.hx B.hb B.hE.2.1 hP hD hS 1 4 12 2 rfl rfl rfl rfl (vp_in_nI (n := 0) (N := 6) (by decide) (by decide)) dX7_init_153 (fun H locs hP hD hS => ?_)
  have hP : va_P g.1 vwCl [(o, .inr (7, [.ref q1, .ref q2, .ref q3, .ref q4, .ref q5, .ref q6, .ref q8, .int 0, .int 0, .int 0, .int 0, .int 20, .int 2, .int 0, .int 0, .int 0, .int 0, .int 0, .int 0])), (q1, .inl (g.2.1 4, (6, .inr (.inr (.inr (.inr (va_up (fun _ => none) 0 (some q9)))))))), (q2, .inl (g.2.1 5, (20, .inr (.inr (.inr (.inr (fun _ => none))))))), (q3, .inl (g.2.1 2, (6, .inr (.inr (.inr (.inr (fun _ => none))))))), (q4, .inl (g.2.1 7, (6, .inr (.inr (.inr (.inr (fun _ => none))))))), (q5, .inl (g.2.1 3, (6, .inr (.inr (.inr (.inr (fun _ => none))))))), (q6, .inr (4, [.ref (u7.getD 0 0), .ref (u7.getD 1 0), .ref (u7.getD 2 0), .ref (u7.getD 3 0), .int 0])), ((u7.getD 0 0), .inl (g.2.1 0, (512, .inl (fun _ => 0)))), ((u7.getD 1 0), .inl (g.2.1 0, (512, .inl (fun _ => 0)))), ((u7.getD 2 0), .inl (g.2.1 0, (512, .inl (fun _ => 0)))), ((u7.getD 3 0), .inl (g.2.1 0, (512, .inl (fun _ => 0)))), (q8, .inl (g.2.1 0, (3001, .inl (fun _ => 0)))), (q9, .inr (2, [.int 0, .int 0, .int 0, .int 0, .int 0]))] H := hP
  have hD : va_D A [(o, .inr (7, [.ref q1, .ref q2, .ref q3, .ref q4, .ref q5, .ref q6, .ref q8, .int 0, .int 0, .int 0, .int 0, .int 20, .int 2, .int 0, .int 0, .int 0, .int 0, .int 0, .int 0])), (q1, .inl (g.2.1 4, (6, .inr (.inr (.inr (.inr (va_up (fun _ => none) 0 (some q9)))))))), (q2, .inl (g.2.1 5, (20, .inr (.inr (.inr (.inr (fun _ => none))))))), (q3, .inl (g.2.1 2, (6, .inr (.inr (.inr (.inr (fun _ => none))))))), (q4, .inl (g.2.1 7, (6, .inr (.inr (.inr (.inr (fun _ => none))))))), (q5, .inl (g.2.1 3, (6, .inr (.inr (.inr (.inr (fun _ => none))))))), (q6, .inr (4, [.ref (u7.getD 0 0), .ref (u7.getD 1 0), .ref (u7.getD 2 0), .ref (u7.getD 3 0), .int 0])), ((u7.getD 0 0), .inl (g.2.1 0, (512, .inl (fun _ => 0)))), ((u7.getD 1 0), .inl (g.2.1 0, (512, .inl (fun _ => 0)))), ((u7.getD 2 0), .inl (g.2.1 0, (512, .inl (fun _ => 0)))), ((u7.getD 3 0), .inl (g.2.1 0, (512, .inl (fun _ => 0)))), (q8, .inl (g.2.1 0, (3001, .inl (fun _ => 0)))), (q9, .inr (2, [.int 0, .int 0, .int 0, .int 0, .int 0]))] := hD
  refine lv_iinc (v := 1) (lv' := [(1, .int 1), (0, .ref o)]) B.hx B.hb dX7_init_154 hl (k := 0) rfl (by decide) (by decide) rfl (fun ls hl => ?_)
  refine lv_goto (tgt := 132) B.hx B.hb dX7_init_157 (by decide) ?_
  refine lv_iload_n B.hx B.hb dX7_init_132 rfl (lv_at hl 0 rfl) ?_
  refine lv_aload_n B.hx B.hb dX7_init_133 rfl (lv_at hl 1 rfl) ?_
  refine va_get (D := g.1) (ci := 7) (v := .ref q1) (C := RX7) (T := TX7) (N := 19) B.hx B.hb B.hw zK7.2.1 B.hown B.hE.2.1 hP 0 rfl zK7.1 0 (by decide) (B.hw _ zv_126) (fun _ h9 => h9) rfl dX7_init_134 ?_
  refine va_alen (v := 6) B.hx B.hb B.hE.2.1 hP 1 4 rfl rfl rfl dX7_init_137 ?_
  refine lv_icmp_ge (tgt := 160) B.hx B.hb dX7_init_138 (by decide) (fun c9 => absurd c9 (by decide)) (fun _ => ?_)
  refine lv_aload_n B.hx B.hb dX7_init_141 rfl (lv_at hl 1 rfl) ?_
  refine va_get (D := g.1) (ci := 7) (v := .ref q1) (C := RX7) (T := TX7) (N := 19) B.hx B.hb B.hw zK7.2.1 B.hown B.hE.2.1 hP 0 rfl zK7.1 0 (by decide) (B.hw _ zv_126) (fun _ h9 => h9) rfl dX7_init_142 ?_
  refine lv_iload_n B.hx B.hb dX7_init_145 rfl (lv_at hl 0 rfl) ?_
  refine zc_mk (ci := 2) (T := TX2) (ty := tyX2) (y := yX2_init) B zK2 zv_67 zv_100 (fun j hj => by rcases (show j = 0 ∨ j = 1 ∨ j = 2 ∨ j = 3 ∨ j = 4 by omega) with rfl | rfl | rfl | rfl | rfl <;> rfl) (zmk_X2 l g) (Or.inr ⟨"Pointsbook", by decide +kernel⟩) zv_103 zv_45 zv_102 rfl ⟨by decide +kernel, by decide +kernel, by decide +kernel⟩ ⟨rfl, rfl⟩ ⟨(Nat.le_of_ble_eq_true rfl), (Nat.le_of_ble_eq_true rfl)⟩ (Nat.le_of_ble_eq_true rfl) (Nat.le_of_ble_eq_true rfl) hP hD hS hl.1 (Nat.le_of_ble_eq_true rfl) dX7_init_146 dX7_init_149 dX7_init_150 (fun q11 u12 H locs hP hD hS => ?_)
  have hP : va_P g.1 vwCl [(o, .inr (7, [.ref q1, .ref q2, .ref q3, .ref q4, .ref q5, .ref q6, .ref q8, .int 0, .int 0, .int 0, .int 0, .int 20, .int 2, .int 0, .int 0, .int 0, .int 0, .int 0, .int 0])), (q1, .inl (g.2.1 4, (6, .inr (.inr (.inr (.inr (va_up (fun _ => none) 0 (some q9)))))))), (q2, .inl (g.2.1 5, (20, .inr (.inr (.inr (.inr (fun _ => none))))))), (q3, .inl (g.2.1 2, (6, .inr (.inr (.inr (.inr (fun _ => none))))))), (q4, .inl (g.2.1 7, (6, .inr (.inr (.inr (.inr (fun _ => none))))))), (q5, .inl (g.2.1 3, (6, .inr (.inr (.inr (.inr (fun _ => none))))))), (q6, .inr (4, [.ref (u7.getD 0 0), .ref (u7.getD 1 0), .ref (u7.getD 2 0), .ref (u7.getD 3 0), .int 0])), ((u7.getD 0 0), .inl (g.2.1 0, (512, .inl (fun _ => 0)))), ((u7.getD 1 0), .inl (g.2.1 0, (512, .inl (fun _ => 0)))), ((u7.getD 2 0), .inl (g.2.1 0, (512, .inl (fun _ => 0)))), ((u7.getD 3 0), .inl (g.2.1 0, (512, .inl (fun _ => 0)))), (q8, .inl (g.2.1 0, (3001, .inl (fun _ => 0)))), (q9, .inr (2, [.int 0, .int 0, .int 0, .int 0, .int 0])), (q11, .inr (2, [.int 0, .int 0, .int 0, .int 0, .int 0]))] H := hP
  have hD : va_D A [(o, .inr (7, [.ref q1, .ref q2, .ref q3, .ref q4, .ref q5, .ref q6, .ref q8, .int 0, .int 0, .int 0, .int 0, .int 20, .int 2, .int 0, .int 0, .int 0, .int 0, .int 0, .int 0])), (q1, .inl (g.2.1 4, (6, .inr (.inr (.inr (.inr (va_up (fun _ => none) 0 (some q9)))))))), (q2, .inl (g.2.1 5, (20, .inr (.inr (.inr (.inr (fun _ => none))))))), (q3, .inl (g.2.1 2, (6, .inr (.inr (.inr (.inr (fun _ => none))))))), (q4, .inl (g.2.1 7, (6, .inr (.inr (.inr (.inr (fun _ => none))))))), (q5, .inl (g.2.1 3, (6, .inr (.inr (.inr (.inr (fun _ => none))))))), (q6, .inr (4, [.ref (u7.getD 0 0), .ref (u7.getD 1 0), .ref (u7.getD 2 0), .ref (u7.getD 3 0), .int 0])), ((u7.getD 0 0), .inl (g.2.1 0, (512, .inl (fun _ => 0)))), ((u7.getD 1 0), .inl (g.2.1 0, (512, .inl (fun _ => 0)))), ((u7.getD 2 0), .inl (g.2.1 0, (512, .inl (fun _ => 0)))), ((u7.getD 3 0), .inl (g.2.1 0, (512, .inl (fun _ => 0)))), (q8, .inl (g.2.1 0, (3001, .inl (fun _ => 0)))), (q9, .inr (2, [.int 0, .int 0, .int 0, .int 0, .int 0])), (q11, .inr (2, [.int 0, .int 0, .int 0, .int 0, .int 0]))] := hD
  refine va_astq B.hx B.hb B.hE.2.1 hP hD hS 1 4 13 2 rfl rfl rfl rfl (vp_in_nI (n := 1) (N := 6) (by decide) (by decide)) dX7_init_153 (fun H locs hP hD hS => ?_)
  have hP : va_P g.1 vwCl [(o, .inr (7, [.ref q1, .ref q2, .ref q3, .ref q4, .ref q5, .ref q6, .ref q8, .int 0, .int 0, .int 0, .int 0, .int 20, .int 2, .int 0, .int 0, .int 0, .int 0, .int 0, .int 0])), (q1, .inl (g.2.1 4, (6, .inr (.inr (.inr (.inr (va_up (va_up (fun _ => none) 0 (some q9)) 1 (some q11)))))))), (q2, .inl (g.2.1 5, (20, .inr (.inr (.inr (.inr (fun _ => none))))))), (q3, .inl (g.2.1 2, (6, .inr (.inr (.inr (.inr (fun _ => none))))))), (q4, .inl (g.2.1 7, (6, .inr (.inr (.inr (.inr (fun _ => none))))))), (q5, .inl (g.2.1 3, (6, .inr (.inr (.inr (.inr (fun _ => none))))))), (q6, .inr (4, [.ref (u7.getD 0 0), .ref (u7.getD 1 0), .ref (u7.getD 2 0), .ref (u7.getD 3 0), .int 0])), ((u7.getD 0 0), .inl (g.2.1 0, (512, .inl (fun _ => 0)))), ((u7.getD 1 0), .inl (g.2.1 0, (512, .inl (fun _ => 0)))), ((u7.getD 2 0), .inl (g.2.1 0, (512, .inl (fun _ => 0)))), ((u7.getD 3 0), .inl (g.2.1 0, (512, .inl (fun _ => 0)))), (q8, .inl (g.2.1 0, (3001, .inl (fun _ => 0)))), (q9, .inr (2, [.int 0, .int 0, .int 0, .int 0, .int 0])), (q11, .inr (2, [.int 0, .int 0, .int 0, .int 0, .int 0]))] H := hP
  have hD : va_D A [(o, .inr (7, [.ref q1, .ref q2, .ref q3, .ref q4, .ref q5, .ref q6, .ref q8, .int 0, .int 0, .int 0, .int 0, .int 20, .int 2, .int 0, .int 0, .int 0, .int 0, .int 0, .int 0])), (q1, .inl (g.2.1 4, (6, .inr (.inr (.inr (.inr (va_up (va_up (fun _ => none) 0 (some q9)) 1 (some q11)))))))), (q2, .inl (g.2.1 5, (20, .inr (.inr (.inr (.inr (fun _ => none))))))), (q3, .inl (g.2.1 2, (6, .inr (.inr (.inr (.inr (fun _ => none))))))), (q4, .inl (g.2.1 7, (6, .inr (.inr (.inr (.inr (fun _ => none))))))), (q5, .inl (g.2.1 3, (6, .inr (.inr (.inr (.inr (fun _ => none))))))), (q6, .inr (4, [.ref (u7.getD 0 0), .ref (u7.getD 1 0), .ref (u7.getD 2 0), .ref (u7.getD 3 0), .int 0])), ((u7.getD 0 0), .inl (g.2.1 0, (512, .inl (fun _ => 0)))), ((u7.getD 1 0), .inl (g.2.1 0, (512, .inl (fun _ => 0)))), ((u7.getD 2 0), .inl (g.2.1 0, (512, .inl (fun _ => 0)))), ((u7.getD 3 0), .inl (g.2.1 0, (512, .inl (fun _ => 0)))), (q8, .inl (g.2.1 0, (3001, .inl (fun _ => 0)))), (q9, .inr (2, [.int 0, .int 0, .int 0, .int 0, .int 0])), (q11, .inr (2, [.int 0, .int 0, .int 0, .int 0, .int 0]))] := hD
  refine lv_iinc (v := 2) (lv' := [(1, .int 2), (0, .ref o)]) B.hx B.hb dX7_init_154 hl (k := 0) rfl (by decide) (by decide) rfl (fun ls hl => ?_)
  refine lv_goto (tgt := 132) B.hx B.hb dX7_init_157 (by decide) ?_
  refine lv_iload_n B.hx B.hb dX7_init_132 rfl (lv_at hl 0 rfl) ?_
  refine lv_aload_n B.hx B.hb dX7_init_133 rfl (lv_at hl 1 rfl) ?_
  refine va_get (D := g.1) (ci := 7) (v := .ref q1) (C := RX7) (T := TX7) (N := 19) B.hx B.hb B.hw zK7.2.1 B.hown B.hE.2.1 hP 0 rfl zK7.1 0 (by decide) (B.hw _ zv_126) (fun _ h9 => h9) rfl dX7_init_134 ?_
  refine va_alen (v := 6) B.hx B.hb B.hE.2.1 hP 1 4 rfl rfl rfl dX7_init_137 ?_
  refine lv_icmp_ge (tgt := 160) B.hx B.hb dX7_init_138 (by decide) (fun c9 => absurd c9 (by decide)) (fun _ => ?_)
  refine lv_aload_n B.hx B.hb dX7_init_141 rfl (lv_at hl 1 rfl) ?_
  refine va_get (D := g.1) (ci := 7) (v := .ref q1) (C := RX7) (T := TX7) (N := 19) B.hx B.hb B.hw zK7.2.1 B.hown B.hE.2.1 hP 0 rfl zK7.1 0 (by decide) (B.hw _ zv_126) (fun _ h9 => h9) rfl dX7_init_142 ?_
  refine lv_iload_n B.hx B.hb dX7_init_145 rfl (lv_at hl 0 rfl) ?_
  refine zc_mk (ci := 2) (T := TX2) (ty := tyX2) (y := yX2_init) B zK2 zv_67 zv_100 (fun j hj => by rcases (show j = 0 ∨ j = 1 ∨ j = 2 ∨ j = 3 ∨ j = 4 by omega) with rfl | rfl | rfl | rfl | rfl <;> rfl) (zmk_X2 l g) (Or.inr ⟨"Pointsbook", by decide +kernel⟩) zv_103 zv_45 zv_102 rfl ⟨by decide +kernel, by decide +kernel, by decide +kernel⟩ ⟨rfl, rfl⟩ ⟨(Nat.le_of_ble_eq_true rfl), (Nat.le_of_ble_eq_true rfl)⟩ (Nat.le_of_ble_eq_true rfl) (Nat.le_of_ble_eq_true rfl) hP hD hS hl.1 (Nat.le_of_ble_eq_true rfl) dX7_init_146 dX7_init_149 dX7_init_150 (fun q13 u14 H locs hP hD hS => ?_)
  have hP : va_P g.1 vwCl [(o, .inr (7, [.ref q1, .ref q2, .ref q3, .ref q4, .ref q5, .ref q6, .ref q8, .int 0, .int 0, .int 0, .int 0, .int 20, .int 2, .int 0, .int 0, .int 0, .int 0, .int 0, .int 0])), (q1, .inl (g.2.1 4, (6, .inr (.inr (.inr (.inr (va_up (va_up (fun _ => none) 0 (some q9)) 1 (some q11)))))))), (q2, .inl (g.2.1 5, (20, .inr (.inr (.inr (.inr (fun _ => none))))))), (q3, .inl (g.2.1 2, (6, .inr (.inr (.inr (.inr (fun _ => none))))))), (q4, .inl (g.2.1 7, (6, .inr (.inr (.inr (.inr (fun _ => none))))))), (q5, .inl (g.2.1 3, (6, .inr (.inr (.inr (.inr (fun _ => none))))))), (q6, .inr (4, [.ref (u7.getD 0 0), .ref (u7.getD 1 0), .ref (u7.getD 2 0), .ref (u7.getD 3 0), .int 0])), ((u7.getD 0 0), .inl (g.2.1 0, (512, .inl (fun _ => 0)))), ((u7.getD 1 0), .inl (g.2.1 0, (512, .inl (fun _ => 0)))), ((u7.getD 2 0), .inl (g.2.1 0, (512, .inl (fun _ => 0)))), ((u7.getD 3 0), .inl (g.2.1 0, (512, .inl (fun _ => 0)))), (q8, .inl (g.2.1 0, (3001, .inl (fun _ => 0)))), (q9, .inr (2, [.int 0, .int 0, .int 0, .int 0, .int 0])), (q11, .inr (2, [.int 0, .int 0, .int 0, .int 0, .int 0])), (q13, .inr (2, [.int 0, .int 0, .int 0, .int 0, .int 0]))] H := hP
  have hD : va_D A [(o, .inr (7, [.ref q1, .ref q2, .ref q3, .ref q4, .ref q5, .ref q6, .ref q8, .int 0, .int 0, .int 0, .int 0, .int 20, .int 2, .int 0, .int 0, .int 0, .int 0, .int 0, .int 0])), (q1, .inl (g.2.1 4, (6, .inr (.inr (.inr (.inr (va_up (va_up (fun _ => none) 0 (some q9)) 1 (some q11)))))))), (q2, .inl (g.2.1 5, (20, .inr (.inr (.inr (.inr (fun _ => none))))))), (q3, .inl (g.2.1 2, (6, .inr (.inr (.inr (.inr (fun _ => none))))))), (q4, .inl (g.2.1 7, (6, .inr (.inr (.inr (.inr (fun _ => none))))))), (q5, .inl (g.2.1 3, (6, .inr (.inr (.inr (.inr (fun _ => none))))))), (q6, .inr (4, [.ref (u7.getD 0 0), .ref (u7.getD 1 0), .ref (u7.getD 2 0), .ref (u7.getD 3 0), .int 0])), ((u7.getD 0 0), .inl (g.2.1 0, (512, .inl (fun _ => 0)))), ((u7.getD 1 0), .inl (g.2.1 0, (512, .inl (fun _ => 0)))), ((u7.getD 2 0), .inl (g.2.1 0, (512, .inl (fun _ => 0)))), ((u7.getD 3 0), .inl (g.2.1 0, (512, .inl (fun _ => 0)))), (q8, .inl (g.2.1 0, (3001, .inl (fun _ => 0)))), (q9, .inr (2, [.int 0, .int 0, .int 0, .int 0, .int 0])), (q11, .inr (2, [.int 0, .int 0, .int 0, .int 0, .int 0])), (q13, .inr (2, [.int 0, .int 0, .int 0, .int 0, .int 0]))] := hD
  refine va_astq B.hx B.hb B.hE.2.1 hP hD hS 1 4 14 2 rfl rfl rfl rfl (vp_in_nI (n := 2) (N := 6) (by decide) (by decide)) dX7_init_153 (fun H locs hP hD hS => ?_)
  have hP : va_P g.1 vwCl [(o, .inr (7, [.ref q1, .ref q2, .ref q3, .ref q4, .ref q5, .ref q6, .ref q8, .int 0, .int 0, .int 0, .int 0, .int 20, .int 2, .int 0, .int 0, .int 0, .int 0, .int 0, .int 0])), (q1, .inl (g.2.1 4, (6, .inr (.inr (.inr (.inr (va_up (va_up (va_up (fun _ => none) 0 (some q9)) 1 (some q11)) 2 (some q13)))))))), (q2, .inl (g.2.1 5, (20, .inr (.inr (.inr (.inr (fun _ => none))))))), (q3, .inl (g.2.1 2, (6, .inr (.inr (.inr (.inr (fun _ => none))))))), (q4, .inl (g.2.1 7, (6, .inr (.inr (.inr (.inr (fun _ => none))))))), (q5, .inl (g.2.1 3, (6, .inr (.inr (.inr (.inr (fun _ => none))))))), (q6, .inr (4, [.ref (u7.getD 0 0), .ref (u7.getD 1 0), .ref (u7.getD 2 0), .ref (u7.getD 3 0), .int 0])), ((u7.getD 0 0), .inl (g.2.1 0, (512, .inl (fun _ => 0)))), ((u7.getD 1 0), .inl (g.2.1 0, (512, .inl (fun _ => 0)))), ((u7.getD 2 0), .inl (g.2.1 0, (512, .inl (fun _ => 0)))), ((u7.getD 3 0), .inl (g.2.1 0, (512, .inl (fun _ => 0)))), (q8, .inl (g.2.1 0, (3001, .inl (fun _ => 0)))), (q9, .inr (2, [.int 0, .int 0, .int 0, .int 0, .int 0])), (q11, .inr (2, [.int 0, .int 0, .int 0, .int 0, .int 0])), (q13, .inr (2, [.int 0, .int 0, .int 0, .int 0, .int 0]))] H := hP
  have hD : va_D A [(o, .inr (7, [.ref q1, .ref q2, .ref q3, .ref q4, .ref q5, .ref q6, .ref q8, .int 0, .int 0, .int 0, .int 0, .int 20, .int 2, .int 0, .int 0, .int 0, .int 0, .int 0, .int 0])), (q1, .inl (g.2.1 4, (6, .inr (.inr (.inr (.inr (va_up (va_up (va_up (fun _ => none) 0 (some q9)) 1 (some q11)) 2 (some q13)))))))), (q2, .inl (g.2.1 5, (20, .inr (.inr (.inr (.inr (fun _ => none))))))), (q3, .inl (g.2.1 2, (6, .inr (.inr (.inr (.inr (fun _ => none))))))), (q4, .inl (g.2.1 7, (6, .inr (.inr (.inr (.inr (fun _ => none))))))), (q5, .inl (g.2.1 3, (6, .inr (.inr (.inr (.inr (fun _ => none))))))), (q6, .inr (4, [.ref (u7.getD 0 0), .ref (u7.getD 1 0), .ref (u7.getD 2 0), .ref (u7.getD 3 0), .int 0])), ((u7.getD 0 0), .inl (g.2.1 0, (512, .inl (fun _ => 0)))), ((u7.getD 1 0), .inl (g.2.1 0, (512, .inl (fun _ => 0)))), ((u7.getD 2 0), .inl (g.2.1 0, (512, .inl (fun _ => 0)))), ((u7.getD 3 0), .inl (g.2.1 0, (512, .inl (fun _ => 0)))), (q8, .inl (g.2.1 0, (3001, .inl (fun _ => 0)))), (q9, .inr (2, [.int 0, .int 0, .int 0, .int 0, .int 0])), (q11, .inr (2, [.int 0, .int 0, .int 0, .int 0, .int 0])), (q13, .inr (2, [.int 0, .int 0, .int 0, .int 0, .int 0]))] := hD
  refine lv_iinc (v := 3) (lv' := [(1, .int 3), (0, .ref o)]) B.hx B.hb dX7_init_154 hl (k := 0) rfl (by decide) (by decide) rfl (fun ls hl => ?_)
  refine lv_goto (tgt := 132) B.hx B.hb dX7_init_157 (by decide) ?_
  refine lv_iload_n B.hx B.hb dX7_init_132 rfl (lv_at hl 0 rfl) ?_
  refine lv_aload_n B.hx B.hb dX7_init_133 rfl (lv_at hl 1 rfl) ?_
  refine va_get (D := g.1) (ci := 7) (v := .ref q1) (C := RX7) (T := TX7) (N := 19) B.hx B.hb B.hw zK7.2.1 B.hown B.hE.2.1 hP 0 rfl zK7.1 0 (by decide) (B.hw _ zv_126) (fun _ h9 => h9) rfl dX7_init_134 ?_
  refine va_alen (v := 6) B.hx B.hb B.hE.2.1 hP 1 4 rfl rfl rfl dX7_init_137 ?_
  refine lv_icmp_ge (tgt := 160) B.hx B.hb dX7_init_138 (by decide) (fun c9 => absurd c9 (by decide)) (fun _ => ?_)
  refine lv_aload_n B.hx B.hb dX7_init_141 rfl (lv_at hl 1 rfl) ?_
  refine va_get (D := g.1) (ci := 7) (v := .ref q1) (C := RX7) (T := TX7) (N := 19) B.hx B.hb B.hw zK7.2.1 B.hown B.hE.2.1 hP 0 rfl zK7.1 0 (by decide) (B.hw _ zv_126) (fun _ h9 => h9) rfl dX7_init_142 ?_
  refine lv_iload_n B.hx B.hb dX7_init_145 rfl (lv_at hl 0 rfl) ?_
  refine zc_mk (ci := 2) (T := TX2) (ty := tyX2) (y := yX2_init) B zK2 zv_67 zv_100 (fun j hj => by rcases (show j = 0 ∨ j = 1 ∨ j = 2 ∨ j = 3 ∨ j = 4 by omega) with rfl | rfl | rfl | rfl | rfl <;> rfl) (zmk_X2 l g) (Or.inr ⟨"Pointsbook", by decide +kernel⟩) zv_103 zv_45 zv_102 rfl ⟨by decide +kernel, by decide +kernel, by decide +kernel⟩ ⟨rfl, rfl⟩ ⟨(Nat.le_of_ble_eq_true rfl), (Nat.le_of_ble_eq_true rfl)⟩ (Nat.le_of_ble_eq_true rfl) (Nat.le_of_ble_eq_true rfl) hP hD hS hl.1 (Nat.le_of_ble_eq_true rfl) dX7_init_146 dX7_init_149 dX7_init_150 (fun q15 u16 H locs hP hD hS => ?_)
  have hP : va_P g.1 vwCl [(o, .inr (7, [.ref q1, .ref q2, .ref q3, .ref q4, .ref q5, .ref q6, .ref q8, .int 0, .int 0, .int 0, .int 0, .int 20, .int 2, .int 0, .int 0, .int 0, .int 0, .int 0, .int 0])), (q1, .inl (g.2.1 4, (6, .inr (.inr (.inr (.inr (va_up (va_up (va_up (fun _ => none) 0 (some q9)) 1 (some q11)) 2 (some q13)))))))), (q2, .inl (g.2.1 5, (20, .inr (.inr (.inr (.inr (fun _ => none))))))), (q3, .inl (g.2.1 2, (6, .inr (.inr (.inr (.inr (fun _ => none))))))), (q4, .inl (g.2.1 7, (6, .inr (.inr (.inr (.inr (fun _ => none))))))), (q5, .inl (g.2.1 3, (6, .inr (.inr (.inr (.inr (fun _ => none))))))), (q6, .inr (4, [.ref (u7.getD 0 0), .ref (u7.getD 1 0), .ref (u7.getD 2 0), .ref (u7.getD 3 0), .int 0])), ((u7.getD 0 0), .inl (g.2.1 0, (512, .inl (fun _ => 0)))), ((u7.getD 1 0), .inl (g.2.1 0, (512, .inl (fun _ => 0)))), ((u7.getD 2 0), .inl (g.2.1 0, (512, .inl (fun _ => 0)))), ((u7.getD 3 0), .inl (g.2.1 0, (512, .inl (fun _ => 0)))), (q8, .inl (g.2.1 0, (3001, .inl (fun _ => 0)))), (q9, .inr (2, [.int 0, .int 0, .int 0, .int 0, .int 0])), (q11, .inr (2, [.int 0, .int 0, .int 0, .int 0, .int 0])), (q13, .inr (2, [.int 0, .int 0, .int 0, .int 0, .int 0])), (q15, .inr (2, [.int 0, .int 0, .int 0, .int 0, .int 0]))] H := hP
  have hD : va_D A [(o, .inr (7, [.ref q1, .ref q2, .ref q3, .ref q4, .ref q5, .ref q6, .ref q8, .int 0, .int 0, .int 0, .int 0, .int 20, .int 2, .int 0, .int 0, .int 0, .int 0, .int 0, .int 0])), (q1, .inl (g.2.1 4, (6, .inr (.inr (.inr (.inr (va_up (va_up (va_up (fun _ => none) 0 (some q9)) 1 (some q11)) 2 (some q13)))))))), (q2, .inl (g.2.1 5, (20, .inr (.inr (.inr (.inr (fun _ => none))))))), (q3, .inl (g.2.1 2, (6, .inr (.inr (.inr (.inr (fun _ => none))))))), (q4, .inl (g.2.1 7, (6, .inr (.inr (.inr (.inr (fun _ => none))))))), (q5, .inl (g.2.1 3, (6, .inr (.inr (.inr (.inr (fun _ => none))))))), (q6, .inr (4, [.ref (u7.getD 0 0), .ref (u7.getD 1 0), .ref (u7.getD 2 0), .ref (u7.getD 3 0), .int 0])), ((u7.getD 0 0), .inl (g.2.1 0, (512, .inl (fun _ => 0)))), ((u7.getD 1 0), .inl (g.2.1 0, (512, .inl (fun _ => 0)))), ((u7.getD 2 0), .inl (g.2.1 0, (512, .inl (fun _ => 0)))), ((u7.getD 3 0), .inl (g.2.1 0, (512, .inl (fun _ => 0)))), (q8, .inl (g.2.1 0, (3001, .inl (fun _ => 0)))), (q9, .inr (2, [.int 0, .int 0, .int 0, .int 0, .int 0])), (q11, .inr (2, [.int 0, .int 0, .int 0, .int 0, .int 0])), (q13, .inr (2, [.int 0, .int 0, .int 0, .int 0, .int 0])), (q15, .inr (2, [.int 0, .int 0, .int 0, .int 0, .int 0]))] := hD
  refine va_astq B.hx B.hb B.hE.2.1 hP hD hS 1 4 15 2 rfl rfl rfl rfl (vp_in_nI (n := 3) (N := 6) (by decide) (by decide)) dX7_init_153 (fun H locs hP hD hS => ?_)
  have hP : va_P g.1 vwCl [(o, .inr (7, [.ref q1, .ref q2, .ref q3, .ref q4, .ref q5, .ref q6, .ref q8, .int 0, .int 0, .int 0, .int 0, .int 20, .int 2, .int 0, .int 0, .int 0, .int 0, .int 0, .int 0])), (q1, .inl (g.2.1 4, (6, .inr (.inr (.inr (.inr (va_up (va_up (va_up (va_up (fun _ => none) 0 (some q9)) 1 (some q11)) 2 (some q13)) 3 (some q15)))))))), (q2, .inl (g.2.1 5, (20, .inr (.inr (.inr (.inr (fun _ => none))))))), (q3, .inl (g.2.1 2, (6, .inr (.inr (.inr (.inr (fun _ => none))))))), (q4, .inl (g.2.1 7, (6, .inr (.inr (.inr (.inr (fun _ => none))))))), (q5, .inl (g.2.1 3, (6, .inr (.inr (.inr (.inr (fun _ => none))))))), (q6, .inr (4, [.ref (u7.getD 0 0), .ref (u7.getD 1 0), .ref (u7.getD 2 0), .ref (u7.getD 3 0), .int 0])), ((u7.getD 0 0), .inl (g.2.1 0, (512, .inl (fun _ => 0)))), ((u7.getD 1 0), .inl (g.2.1 0, (512, .inl (fun _ => 0)))), ((u7.getD 2 0), .inl (g.2.1 0, (512, .inl (fun _ => 0)))), ((u7.getD 3 0), .inl (g.2.1 0, (512, .inl (fun _ => 0)))), (q8, .inl (g.2.1 0, (3001, .inl (fun _ => 0)))), (q9, .inr (2, [.int 0, .int 0, .int 0, .int 0, .int 0])), (q11, .inr (2, [.int 0, .int 0, .int 0, .int 0, .int 0])), (q13, .inr (2, [.int 0, .int 0, .int 0, .int 0, .int 0])), (q15, .inr (2, [.int 0, .int 0, .int 0, .int 0, .int 0]))] H := hP
  have hD : va_D A [(o, .inr (7, [.ref q1, .ref q2, .ref q3, .ref q4, .ref q5, .ref q6, .ref q8, .int 0, .int 0, .int 0, .int 0, .int 20, .int 2, .int 0, .int 0, .int 0, .int 0, .int 0, .int 0])), (q1, .inl (g.2.1 4, (6, .inr (.inr (.inr (.inr (va_up (va_up (va_up (va_up (fun _ => none) 0 (some q9)) 1 (some q11)) 2 (some q13)) 3 (some q15)))))))), (q2, .inl (g.2.1 5, (20, .inr (.inr (.inr (.inr (fun _ => none))))))), (q3, .inl (g.2.1 2, (6, .inr (.inr (.inr (.inr (fun _ => none))))))), (q4, .inl (g.2.1 7, (6, .inr (.inr (.inr (.inr (fun _ => none))))))), (q5, .inl (g.2.1 3, (6, .inr (.inr (.inr (.inr (fun _ => none))))))), (q6, .inr (4, [.ref (u7.getD 0 0), .ref (u7.getD 1 0), .ref (u7.getD 2 0), .ref (u7.getD 3 0), .int 0])), ((u7.getD 0 0), .inl (g.2.1 0, (512, .inl (fun _ => 0)))), ((u7.getD 1 0), .inl (g.2.1 0, (512, .inl (fun _ => 0)))), ((u7.getD 2 0), .inl (g.2.1 0, (512, .inl (fun _ => 0)))), ((u7.getD 3 0), .inl (g.2.1 0, (512, .inl (fun _ => 0)))), (q8, .inl (g.2.1 0, (3001, .inl (fun _ => 0)))), (q9, .inr (2, [.int 0, .int 0, .int 0, .int 0, .int 0])), (q11, .inr (2, [.int 0, .int 0, .int 0, .int 0, .int 0])), (q13, .inr (2, [.int 0, .int 0, .int 0, .int 0, .int 0])), (q15, .inr (2, [.int 0, .int 0, .int 0, .int 0, .int 0]))] := hD
  refine lv_iinc (v := 4) (lv' := [(1, .int 4), (0, .ref o)]) B.hx B.hb dX7_init_154 hl (k := 0) rfl (by decide) (by decide) rfl (fun ls hl => ?_)
  refine lv_goto (tgt := 132) B.hx B.hb dX7_init_157 (by decide) ?_
  refine lv_iload_n B.hx B.hb dX7_init_132 rfl (lv_at hl 0 rfl) ?_
  refine lv_aload_n B.hx B.hb dX7_init_133 rfl (lv_at hl 1 rfl) ?_
  refine va_get (D := g.1) (ci := 7) (v := .ref q1) (C := RX7) (T := TX7) (N := 19) B.hx B.hb B.hw zK7.2.1 B.hown B.hE.2.1 hP 0 rfl zK7.1 0 (by decide) (B.hw _ zv_126) (fun _ h9 => h9) rfl dX7_init_134 ?_
  refine va_alen (v := 6) B.hx B.hb B.hE.2.1 hP 1 4 rfl rfl rfl dX7_init_137 ?_
  refine lv_icmp_ge (tgt := 160) B.hx B.hb dX7_init_138 (by decide) (fun c9 => absurd c9 (by decide)) (fun _ => ?_)
  refine lv_aload_n B.hx B.hb dX7_init_141 rfl (lv_at hl 1 rfl) ?_
  refine va_get (D := g.1) (ci := 7) (v := .ref q1) (C := RX7) (T := TX7) (N := 19) B.hx B.hb B.hw zK7.2.1 B.hown B.hE.2.1 hP 0 rfl zK7.1 0 (by decide) (B.hw _ zv_126) (fun _ h9 => h9) rfl dX7_init_142 ?_
  refine lv_iload_n B.hx B.hb dX7_init_145 rfl (lv_at hl 0 rfl) ?_
  refine zc_mk (ci := 2) (T := TX2) (ty := tyX2) (y := yX2_init) B zK2 zv_67 zv_100 (fun j hj => by rcases (show j = 0 ∨ j = 1 ∨ j = 2 ∨ j = 3 ∨ j = 4 by omega) with rfl | rfl | rfl | rfl | rfl <;> rfl) (zmk_X2 l g) (Or.inr ⟨"Pointsbook", by decide +kernel⟩) zv_103 zv_45 zv_102 rfl ⟨by decide +kernel, by decide +kernel, by decide +kernel⟩ ⟨rfl, rfl⟩ ⟨(Nat.le_of_ble_eq_true rfl), (Nat.le_of_ble_eq_true rfl)⟩ (Nat.le_of_ble_eq_true rfl) (Nat.le_of_ble_eq_true rfl) hP hD hS hl.1 (Nat.le_of_ble_eq_true rfl) dX7_init_146 dX7_init_149 dX7_init_150 (fun q17 u18 H locs hP hD hS => ?_)
  have hP : va_P g.1 vwCl [(o, .inr (7, [.ref q1, .ref q2, .ref q3, .ref q4, .ref q5, .ref q6, .ref q8, .int 0, .int 0, .int 0, .int 0, .int 20, .int 2, .int 0, .int 0, .int 0, .int 0, .int 0, .int 0])), (q1, .inl (g.2.1 4, (6, .inr (.inr (.inr (.inr (va_up (va_up (va_up (va_up (fun _ => none) 0 (some q9)) 1 (some q11)) 2 (some q13)) 3 (some q15)))))))), (q2, .inl (g.2.1 5, (20, .inr (.inr (.inr (.inr (fun _ => none))))))), (q3, .inl (g.2.1 2, (6, .inr (.inr (.inr (.inr (fun _ => none))))))), (q4, .inl (g.2.1 7, (6, .inr (.inr (.inr (.inr (fun _ => none))))))), (q5, .inl (g.2.1 3, (6, .inr (.inr (.inr (.inr (fun _ => none))))))), (q6, .inr (4, [.ref (u7.getD 0 0), .ref (u7.getD 1 0), .ref (u7.getD 2 0), .ref (u7.getD 3 0), .int 0])), ((u7.getD 0 0), .inl (g.2.1 0, (512, .inl (fun _ => 0)))), ((u7.getD 1 0), .inl (g.2.1 0, (512, .inl (fun _ => 0)))), ((u7.getD 2 0), .inl (g.2.1 0, (512, .inl (fun _ => 0)))), ((u7.getD 3 0), .inl (g.2.1 0, (512, .inl (fun _ => 0)))), (q8, .inl (g.2.1 0, (3001, .inl (fun _ => 0)))), (q9, .inr (2, [.int 0, .int 0, .int 0, .int 0, .int 0])), (q11, .inr (2, [.int 0, .int 0, .int 0, .int 0, .int 0])), (q13, .inr (2, [.int 0, .int 0, .int 0, .int 0, .int 0])), (q15, .inr (2, [.int 0, .int 0, .int 0, .int 0, .int 0])), (q17, .inr (2, [.int 0, .int 0, .int 0, .int 0, .int 0]))] H := hP
  have hD : va_D A [(o, .inr (7, [.ref q1, .ref q2, .ref q3, .ref q4, .ref q5, .ref q6, .ref q8, .int 0, .int 0, .int 0, .int 0, .int 20, .int 2, .int 0, .int 0, .int 0, .int 0, .int 0, .int 0])), (q1, .inl (g.2.1 4, (6, .inr (.inr (.inr (.inr (va_up (va_up (va_up (va_up (fun _ => none) 0 (some q9)) 1 (some q11)) 2 (some q13)) 3 (some q15)))))))), (q2, .inl (g.2.1 5, (20, .inr (.inr (.inr (.inr (fun _ => none))))))), (q3, .inl (g.2.1 2, (6, .inr (.inr (.inr (.inr (fun _ => none))))))), (q4, .inl (g.2.1 7, (6, .inr (.inr (.inr (.inr (fun _ => none))))))), (q5, .inl (g.2.1 3, (6, .inr (.inr (.inr (.inr (fun _ => none))))))), (q6, .inr (4, [.ref (u7.getD 0 0), .ref (u7.getD 1 0), .ref (u7.getD 2 0), .ref (u7.getD 3 0), .int 0])), ((u7.getD 0 0), .inl (g.2.1 0, (512, .inl (fun _ => 0)))), ((u7.getD 1 0), .inl (g.2.1 0, (512, .inl (fun _ => 0)))), ((u7.getD 2 0), .inl (g.2.1 0, (512, .inl (fun _ => 0)))), ((u7.getD 3 0), .inl (g.2.1 0, (512, .inl (fun _ => 0)))), (q8, .inl (g.2.1 0, (3001, .inl (fun _ => 0)))), (q9, .inr (2, [.int 0, .int 0, .int 0, .int 0, .int 0])), (q11, .inr (2, [.int 0, .int 0, .int 0, .int 0, .int 0])), (q13, .inr (2, [.int 0, .int 0, .int 0, .int 0, .int 0])), (q15, .inr (2, [.int 0, .int 0, .int 0, .int 0, .int 0])), (q17, .inr (2, [.int 0, .int 0, .int 0, .int 0, .int 0]))] := hD
  refine va_astq B.hx B.hb B.hE.2.1 hP hD hS 1 4 16 2 rfl rfl rfl rfl (vp_in_nI (n := 4) (N := 6) (by decide) (by decide)) dX7_init_153 (fun H locs hP hD hS => ?_)
  have hP : va_P g.1 vwCl [(o, .inr (7, [.ref q1, .ref q2, .ref q3, .ref q4, .ref q5, .ref q6, .ref q8, .int 0, .int 0, .int 0, .int 0, .int 20, .int 2, .int 0, .int 0, .int 0, .int 0, .int 0, .int 0])), (q1, .inl (g.2.1 4, (6, .inr (.inr (.inr (.inr (va_up (va_up (va_up (va_up (va_up (fun _ => none) 0 (some q9)) 1 (some q11)) 2 (some q13)) 3 (some q15)) 4 (some q17)))))))), (q2, .inl (g.2.1 5, (20, .inr (.inr (.inr (.inr (fun _ => none))))))), (q3, .inl (g.2.1 2, (6, .inr (.inr (.inr (.inr (fun _ => none))))))), (q4, .inl (g.2.1 7, (6, .inr (.inr (.inr (.inr (fun _ => none))))))), (q5, .inl (g.2.1 3, (6, .inr (.inr (.inr (.inr (fun _ => none))))))), (q6, .inr (4, [.ref (u7.getD 0 0), .ref (u7.getD 1 0), .ref (u7.getD 2 0), .ref (u7.getD 3 0), .int 0])), ((u7.getD 0 0), .inl (g.2.1 0, (512, .inl (fun _ => 0)))), ((u7.getD 1 0), .inl (g.2.1 0, (512, .inl (fun _ => 0)))), ((u7.getD 2 0), .inl (g.2.1 0, (512, .inl (fun _ => 0)))), ((u7.getD 3 0), .inl (g.2.1 0, (512, .inl (fun _ => 0)))), (q8, .inl (g.2.1 0, (3001, .inl (fun _ => 0)))), (q9, .inr (2, [.int 0, .int 0, .int 0, .int 0, .int 0])), (q11, .inr (2, [.int 0, .int 0, .int 0, .int 0, .int 0])), (q13, .inr (2, [.int 0, .int 0, .int 0, .int 0, .int 0])), (q15, .inr (2, [.int 0, .int 0, .int 0, .int 0, .int 0])), (q17, .inr (2, [.int 0, .int 0, .int 0, .int 0, .int 0]))] H := hP
  have hD : va_D A [(o, .inr (7, [.ref q1, .ref q2, .ref q3, .ref q4, .ref q5, .ref q6, .ref q8, .int 0, .int 0, .int 0, .int 0, .int 20, .int 2, .int 0, .int 0, .int 0, .int 0, .int 0, .int 0])), (q1, .inl (g.2.1 4, (6, .inr (.inr (.inr (.inr (va_up (va_up (va_up (va_up (va_up (fun _ => none) 0 (some q9)) 1 (some q11)) 2 (some q13)) 3 (some q15)) 4 (some q17)))))))), (q2, .inl (g.2.1 5, (20, .inr (.inr (.inr (.inr (fun _ => none))))))), (q3, .inl (g.2.1 2, (6, .inr (.inr (.inr (.inr (fun _ => none))))))), (q4, .inl (g.2.1 7, (6, .inr (.inr (.inr (.inr (fun _ => none))))))), (q5, .inl (g.2.1 3, (6, .inr (.inr (.inr (.inr (fun _ => none))))))), (q6, .inr (4, [.ref (u7.getD 0 0), .ref (u7.getD 1 0), .ref (u7.getD 2 0), .ref (u7.getD 3 0), .int 0])), ((u7.getD 0 0), .inl (g.2.1 0, (512, .inl (fun _ => 0)))), ((u7.getD 1 0), .inl (g.2.1 0, (512, .inl (fun _ => 0)))), ((u7.getD 2 0), .inl (g.2.1 0, (512, .inl (fun _ => 0)))), ((u7.getD 3 0), .inl (g.2.1 0, (512, .inl (fun _ => 0)))), (q8, .inl (g.2.1 0, (3001, .inl (fun _ => 0)))), (q9, .inr (2, [.int 0, .int 0, .int 0, .int 0, .int 0])), (q11, .inr (2, [.int 0, .int 0, .int 0, .int 0, .int 0])), (q13, .inr (2, [.int 0, .int 0, .int 0, .int 0, .int 0])), (q15, .inr (2, [.int 0, .int 0, .int 0, .int 0, .int 0])), (q17, .inr (2, [.int 0, .int 0, .int 0, .int 0, .int 0]))] := hD
  refine lv_iinc (v := 5) (lv' := [(1, .int 5), (0, .ref o)]) B.hx B.hb dX7_init_154 hl (k := 0) rfl (by decide) (by decide) rfl (fun ls hl => ?_)
  refine lv_goto (tgt := 132) B.hx B.hb dX7_init_157 (by decide) ?_
  refine lv_iload_n B.hx B.hb dX7_init_132 rfl (lv_at hl 0 rfl) ?_
  refine lv_aload_n B.hx B.hb dX7_init_133 rfl (lv_at hl 1 rfl) ?_
  refine va_get (D := g.1) (ci := 7) (v := .ref q1) (C := RX7) (T := TX7) (N := 19) B.hx B.hb B.hw zK7.2.1 B.hown B.hE.2.1 hP 0 rfl zK7.1 0 (by decide) (B.hw _ zv_126) (fun _ h9 => h9) rfl dX7_init_134 ?_
  refine va_alen (v := 6) B.hx B.hb B.hE.2.1 hP 1 4 rfl rfl rfl dX7_init_137 ?_
  refine lv_icmp_ge (tgt := 160) B.hx B.hb dX7_init_138 (by decide) (fun c9 => absurd c9 (by decide)) (fun _ => ?_)
  refine lv_aload_n B.hx B.hb dX7_init_141 rfl (lv_at hl 1 rfl) ?_
  refine va_get (D := g.1) (ci := 7) (v := .ref q1) (C := RX7) (T := TX7) (N := 19) B.hx B.hb B.hw zK7.2.1 B.hown B.hE.2.1 hP 0 rfl zK7.1 0 (by decide) (B.hw _ zv_126) (fun _ h9 => h9) rfl dX7_init_142 ?_
  refine lv_iload_n B.hx B.hb dX7_init_145 rfl (lv_at hl 0 rfl) ?_
  refine zc_mk (ci := 2) (T := TX2) (ty := tyX2) (y := yX2_init) B zK2 zv_67 zv_100 (fun j hj => by rcases (show j = 0 ∨ j = 1 ∨ j = 2 ∨ j = 3 ∨ j = 4 by omega) with rfl | rfl | rfl | rfl | rfl <;> rfl) (zmk_X2 l g) (Or.inr ⟨"Pointsbook", by decide +kernel⟩) zv_103 zv_45 zv_102 rfl ⟨by decide +kernel, by decide +kernel, by decide +kernel⟩ ⟨rfl, rfl⟩ ⟨(Nat.le_of_ble_eq_true rfl), (Nat.le_of_ble_eq_true rfl)⟩ (Nat.le_of_ble_eq_true rfl) (Nat.le_of_ble_eq_true rfl) hP hD hS hl.1 (Nat.le_of_ble_eq_true rfl) dX7_init_146 dX7_init_149 dX7_init_150 (fun q19 u20 H locs hP hD hS => ?_)
  have hP : va_P g.1 vwCl [(o, .inr (7, [.ref q1, .ref q2, .ref q3, .ref q4, .ref q5, .ref q6, .ref q8, .int 0, .int 0, .int 0, .int 0, .int 20, .int 2, .int 0, .int 0, .int 0, .int 0, .int 0, .int 0])), (q1, .inl (g.2.1 4, (6, .inr (.inr (.inr (.inr (va_up (va_up (va_up (va_up (va_up (fun _ => none) 0 (some q9)) 1 (some q11)) 2 (some q13)) 3 (some q15)) 4 (some q17)))))))), (q2, .inl (g.2.1 5, (20, .inr (.inr (.inr (.inr (fun _ => none))))))), (q3, .inl (g.2.1 2, (6, .inr (.inr (.inr (.inr (fun _ => none))))))), (q4, .inl (g.2.1 7, (6, .inr (.inr (.inr (.inr (fun _ => none))))))), (q5, .inl (g.2.1 3, (6, .inr (.inr (.inr (.inr (fun _ => none))))))), (q6, .inr (4, [.ref (u7.getD 0 0), .ref (u7.getD 1 0), .ref (u7.getD 2 0), .ref (u7.getD 3 0), .int 0])), ((u7.getD 0 0), .inl (g.2.1 0, (512, .inl (fun _ => 0)))), ((u7.getD 1 0), .inl (g.2.1 0, (512, .inl (fun _ => 0)))), ((u7.getD 2 0), .inl (g.2.1 0, (512, .inl (fun _ => 0)))), ((u7.getD 3 0), .inl (g.2.1 0, (512, .inl (fun _ => 0)))), (q8, .inl (g.2.1 0, (3001, .inl (fun _ => 0)))), (q9, .inr (2, [.int 0, .int 0, .int 0, .int 0, .int 0])), (q11, .inr (2, [.int 0, .int 0, .int 0, .int 0, .int 0])), (q13, .inr (2, [.int 0, .int 0, .int 0, .int 0, .int 0])), (q15, .inr (2, [.int 0, .int 0, .int 0, .int 0, .int 0])), (q17, .inr (2, [.int 0, .int 0, .int 0, .int 0, .int 0])), (q19, .inr (2, [.int 0, .int 0, .int 0, .int 0, .int 0]))] H := hP
  have hD : va_D A [(o, .inr (7, [.ref q1, .ref q2, .ref q3, .ref q4, .ref q5, .ref q6, .ref q8, .int 0, .int 0, .int 0, .int 0, .int 20, .int 2, .int 0, .int 0, .int 0, .int 0, .int 0, .int 0])), (q1, .inl (g.2.1 4, (6, .inr (.inr (.inr (.inr (va_up (va_up (va_up (va_up (va_up (fun _ => none) 0 (some q9)) 1 (some q11)) 2 (some q13)) 3 (some q15)) 4 (some q17)))))))), (q2, .inl (g.2.1 5, (20, .inr (.inr (.inr (.inr (fun _ => none))))))), (q3, .inl (g.2.1 2, (6, .inr (.inr (.inr (.inr (fun _ => none))))))), (q4, .inl (g.2.1 7, (6, .inr (.inr (.inr (.inr (fun _ => none))))))), (q5, .inl (g.2.1 3, (6, .inr (.inr (.inr (.inr (fun _ => none))))))), (q6, .inr (4, [.ref (u7.getD 0 0), .ref (u7.getD 1 0), .ref (u7.getD 2 0), .ref (u7.getD 3 0), .int 0])), ((u7.getD 0 0), .inl (g.2.1 0, (512, .inl (fun _ => 0)))), ((u7.getD 1 0), .inl (g.2.1 0, (512, .inl (fun _ => 0)))), ((u7.getD 2 0), .inl (g.2.1 0, (512, .inl (fun _ => 0)))), ((u7.getD 3 0), .inl (g.2.1 0, (512, .inl (fun _ => 0)))), (q8, .inl (g.2.1 0, (3001, .inl (fun _ => 0)))), (q9, .inr (2, [.int 0, .int 0, .int 0, .int 0, .int 0])), (q11, .inr (2, [.int 0, .int 0, .int 0, .int 0, .int 0])), (q13, .inr (2, [.int 0, .int 0, .int 0, .int 0, .int 0])), (q15, .inr (2, [.int 0, .int 0, .int 0, .int 0, .int 0])), (q17, .inr (2, [.int 0, .int 0, .int 0, .int 0, .int 0])), (q19, .inr (2, [.int 0, .int 0, .int 0, .int 0, .int 0]))] := hD
  refine va_astq B.hx B.hb B.hE.2.1 hP hD hS 1 4 17 2 rfl rfl rfl rfl (vp_in_nI (n := 5) (N := 6) (by decide) (by decide)) dX7_init_153 (fun H locs hP hD hS => ?_)
  have hP : va_P g.1 vwCl [(o, .inr (7, [.ref q1, .ref q2, .ref q3, .ref q4, .ref q5, .ref q6, .ref q8, .int 0, .int 0, .int 0, .int 0, .int 20, .int 2, .int 0, .int 0, .int 0, .int 0, .int 0, .int 0])), (q1, .inl (g.2.1 4, (6, .inr (.inr (.inr (.inr (va_up (va_up (va_up (va_up (va_up (va_up (fun _ => none) 0 (some q9)) 1 (some q11)) 2 (some q13)) 3 (some q15)) 4 (some q17)) 5 (some q19)))))))), (q2, .inl (g.2.1 5, (20, .inr (.inr (.inr (.inr (fun _ => none))))))), (q3, .inl (g.2.1 2, (6, .inr (.inr (.inr (.inr (fun _ => none))))))), (q4, .inl (g.2.1 7, (6, .inr (.inr (.inr (.inr (fun _ => none))))))), (q5, .inl (g.2.1 3, (6, .inr (.inr (.inr (.inr (fun _ => none))))))), (q6, .inr (4, [.ref (u7.getD 0 0), .ref (u7.getD 1 0), .ref (u7.getD 2 0), .ref (u7.getD 3 0), .int 0])), ((u7.getD 0 0), .inl (g.2.1 0, (512, .inl (fun _ => 0)))), ((u7.getD 1 0), .inl (g.2.1 0, (512, .inl (fun _ => 0)))), ((u7.getD 2 0), .inl (g.2.1 0, (512, .inl (fun _ => 0)))), ((u7.getD 3 0), .inl (g.2.1 0, (512, .inl (fun _ => 0)))), (q8, .inl (g.2.1 0, (3001, .inl (fun _ => 0)))), (q9, .inr (2, [.int 0, .int 0, .int 0, .int 0, .int 0])), (q11, .inr (2, [.int 0, .int 0, .int 0, .int 0, .int 0])), (q13, .inr (2, [.int 0, .int 0, .int 0, .int 0, .int 0])), (q15, .inr (2, [.int 0, .int 0, .int 0, .int 0, .int 0])), (q17, .inr (2, [.int 0, .int 0, .int 0, .int 0, .int 0])), (q19, .inr (2, [.int 0, .int 0, .int 0, .int 0, .int 0]))] H := hP
  have hD : va_D A [(o, .inr (7, [.ref q1, .ref q2, .ref q3, .ref q4, .ref q5, .ref q6, .ref q8, .int 0, .int 0, .int 0, .int 0, .int 20, .int 2, .int 0, .int 0, .int 0, .int 0, .int 0, .int 0])), (q1, .inl (g.2.1 4, (6, .inr (.inr (.inr (.inr (va_up (va_up (va_up (va_up (va_up (va_up (fun _ => none) 0 (some q9)) 1 (some q11)) 2 (some q13)) 3 (some q15)) 4 (some q17)) 5 (some q19)))))))), (q2, .inl (g.2.1 5, (20, .inr (.inr (.inr (.inr (fun _ => none))))))), (q3, .inl (g.2.1 2, (6, .inr (.inr (.inr (.inr (fun _ => none))))))), (q4, .inl (g.2.1 7, (6, .inr (.inr (.inr (.inr (fun _ => none))))))), (q5, .inl (g.2.1 3, (6, .inr (.inr (.inr (.inr (fun _ => none))))))), (q6, .inr (4, [.ref (u7.getD 0 0), .ref (u7.getD 1 0), .ref (u7.getD 2 0), .ref (u7.getD 3 0), .int 0])), ((u7.getD 0 0), .inl (g.2.1 0, (512, .inl (fun _ => 0)))), ((u7.getD 1 0), .inl (g.2.1 0, (512, .inl (fun _ => 0)))), ((u7.getD 2 0), .inl (g.2.1 0, (512, .inl (fun _ => 0)))), ((u7.getD 3 0), .inl (g.2.1 0, (512, .inl (fun _ => 0)))), (q8, .inl (g.2.1 0, (3001, .inl (fun _ => 0)))), (q9, .inr (2, [.int 0, .int 0, .int 0, .int 0, .int 0])), (q11, .inr (2, [.int 0, .int 0, .int 0, .int 0, .int 0])), (q13, .inr (2, [.int 0, .int 0, .int 0, .int 0, .int 0])), (q15, .inr (2, [.int 0, .int 0, .int 0, .int 0, .int 0])), (q17, .inr (2, [.int 0, .int 0, .int 0, .int 0, .int 0])), (q19, .inr (2, [.int 0, .int 0, .int 0, .int 0, .int 0]))] := hD
  refine lv_iinc (v := 6) (lv' := [(1, .int 6), (0, .ref o)]) B.hx B.hb dX7_init_154 hl (k := 0) rfl (by decide) (by decide) rfl (fun ls hl => ?_)
  refine lv_goto (tgt := 132) B.hx B.hb dX7_init_157 (by decide) ?_
  refine lv_iload_n B.hx B.hb dX7_init_132 rfl (lv_at hl 0 rfl) ?_
  refine lv_aload_n B.hx B.hb dX7_init_133 rfl (lv_at hl 1 rfl) ?_
  refine va_get (D := g.1) (ci := 7) (v := .ref q1) (C := RX7) (T := TX7) (N := 19) B.hx B.hb B.hw zK7.2.1 B.hown B.hE.2.1 hP 0 rfl zK7.1 0 (by decide) (B.hw _ zv_126) (fun _ h9 => h9) rfl dX7_init_134 ?_
  refine va_alen (v := 6) B.hx B.hb B.hE.2.1 hP 1 4 rfl rfl rfl dX7_init_137 ?_
  refine lv_icmp_ge (tgt := 160) B.hx B.hb dX7_init_138 (by decide) (fun _ => ?_) (fun c9 => absurd (by decide) c9)
  exact zc_vret (w1 := w_X7 g) [q1, q2, q3, q4, q5, q6, (u7.getD 0 0), (u7.getD 1 0), (u7.getD 2 0), (u7.getD 3 0), q8, q9, q11, q13, q15, q17, q19] B hr hlk hP hD hS dX7_init_160
end
section
section ZNA
variable {p : Program} {l : Launch} {e : Env} {R : Room} {s : State} {m : MethodId} {args : Array Value} {below : List Frame} {meth : Method} {c : Code} {H : Heap} {locs : List Loc} {cells slots : Nat} {Q : State → Prop}
variable {cc : ByteArray} {own : String} {nL : Nat} {g : ZG} {A : Nat → Prop} {pc : Nat} {ls : Array Slot} {rest : List Value} {ws : va_W}
/-- a row of ints is made and kept in a field -/
theorem zc_arr {ci o f N idx : Nat} {Cn : String} {T : u_T} {tyf : Nat → FieldType} {fs : List Value} {ft : FieldType} {atype : ArrayType} {ty : FieldType} {k : Nat} {n : Int32} {N' : Nat} (B : zB p s m args c cc own nL g A) (hin : meth.name = "<init>") (hK : zKl ci Cn T N tyf) (hf : f < N) (hlink : Cond.fieldLink own idx Cn (T f).2.1 (T f).2.2.1 ∈ wG) (href : (T f).1 = Cn) (hoc : Cn = own) (hft : parseFieldDescriptor (T f).2.2.1 = some ft) (hnar : ∀ q, narrow ft (.ref q) = .ref q) (hfit : ∀ q, fits ft (.ref q) = true) (hl : fs.length = N)
    (hw9 : Cond.arrayClass ty ∈ wG) (hty : newarray.typeOf atype = ty) (hk : ∀ cA : Nat → ClassId, (zty cA)[k]? = some (cA k, ty)) (hra : ∀ (cA : ClassId), va_RA s cA ty → s.vm.findClass ("[" ++ ty.toString) = some cA) (ha : ∀ cA : ClassId, vp_cell cA (N', .inl (fun _ => 0)) = arrV cA N' (fun _ => defaultValue ty))
    (hP : va_P g.1 vwCl ((o, .inr (ci, fs)) :: ws) H) (hD : va_D A ((o, .inr (ci, fs)) :: ws)) (hS : va_S A s.heap H locs) (hn : ¬ n < 0) (hN : n.toNatClampNeg = N') (hb9 : N' * componentBytes ty ≤ 536870912) (hcells : cells + 1 ≤ R.cells) (hslots : slots + N' ≤ R.slots) (hdg : decode cc pc = .ok (.newarray atype, 2)) (hd2 : decode cc (pc + 2) = .ok (.putfield idx, 3))
    (kk : ∀ (q : Nat) (H1 : Heap) (locs1 : List Loc), va_P g.1 vwCl ((o, .inr (ci, fs.set f (.ref q))) :: (ws ++ [(q, .inl (g.2.1 k, (N', .inl (fun _ => 0))))])) H1 → va_D A ((o, .inr (ci, fs.set f (.ref q))) :: (ws ++ [(q, .inl (g.2.1 k, (N', .inl (fun _ => 0))))])) → va_S A s.heap H1 locs1 → (fs.set f (.ref q)).length = N → W p l e R s m args below meth c H1 locs1 (cells + 1) (slots + N') Q (F0 m (pc + 5) ls rest)) : W p l e R s m args below meth c H locs cells slots Q (F0 m pc ls (.int n :: .ref o :: rest)) := by
  refine zc_newT B hw9 hty hk hra ha hP hD hS hn hN hb9 hcells hslots hdg (fun q H1 hP hD hS => ?_)
  rw [List.cons_append] at hP hD
  exact zc_put B hin hK hf hlink href hoc hft (hnar q) (hfit q) hl hP hD hS hd2 (fun H2 locs2 hP hD hS hfl => kk q H2 locs2 hP hD hS hfl)
end ZNA
theorem dX8_init_0 : decode cX8_init 0 = .ok (.aload_n 0, 1) := by decide +kernel
theorem dX8_init_1 : decode cX8_init 1 = .ok (.invokespecial 1, 3) := by decide +kernel
theorem dX8_init_4 : decode cX8_init 4 = .ok (.aload_n 0, 1) := by decide +kernel
theorem dX8_init_5 : decode cX8_init 5 = .ok (.bipush 20, 2) := by decide +kernel
theorem dX8_init_7 : decode cX8_init 7 = .ok (.putfield 7, 3) := by decide +kernel
theorem dX8_init_10 : decode cX8_init 10 = .ok (.aload_n 0, 1) := by decide +kernel
theorem dX8_init_11 : decode cX8_init 11 = .ok (.iconst 2, 1) := by decide +kernel
theorem dX8_init_12 : decode cX8_init 12 = .ok (.putfield 13, 3) := by decide +kernel
theorem dX8_init_15 : decode cX8_init 15 = .ok (.aload_n 0, 1) := by decide +kernel
theorem dX8_init_16 : decode cX8_init 16 = .ok (.bipush 6, 2) := by decide +kernel
theorem dX8_init_18 : decode cX8_init 18 = .ok (.newarray .int, 2) := by decide +kernel
theorem dX8_init_20 : decode cX8_init 20 = .ok (.putfield 16, 3) := by decide +kernel
theorem dX8_init_23 : decode cX8_init 23 = .ok (.aload_n 0, 1) := by decide +kernel
theorem dX8_init_24 : decode cX8_init 24 = .ok (.bipush 6, 2) := by decide +kernel
theorem dX8_init_26 : decode cX8_init 26 = .ok (.newarray .int, 2) := by decide +kernel
theorem dX8_init_28 : decode cX8_init 28 = .ok (.putfield 20, 3) := by decide +kernel
theorem dX8_init_31 : decode cX8_init 31 = .ok (.aload_n 0, 1) := by decide +kernel
theorem dX8_init_32 : decode cX8_init 32 = .ok (.bipush 6, 2) := by decide +kernel
theorem dX8_init_34 : decode cX8_init 34 = .ok (.newarray .int, 2) := by decide +kernel
theorem dX8_init_36 : decode cX8_init 36 = .ok (.putfield 23, 3) := by decide +kernel
theorem dX8_init_39 : decode cX8_init 39 = .ok (.aload_n 0, 1) := by decide +kernel
theorem dX8_init_40 : decode cX8_init 40 = .ok (.bipush 6, 2) := by decide +kernel
theorem dX8_init_42 : decode cX8_init 42 = .ok (.newarray .int, 2) := by decide +kernel
theorem dX8_init_44 : decode cX8_init 44 = .ok (.putfield 26, 3) := by decide +kernel
theorem dX8_init_47 : decode cX8_init 47 = .ok (.aload_n 0, 1) := by decide +kernel
theorem dX8_init_48 : decode cX8_init 48 = .ok (.bipush 6, 2) := by decide +kernel
theorem dX8_init_50 : decode cX8_init 50 = .ok (.newarray .int, 2) := by decide +kernel
theorem dX8_init_52 : decode cX8_init 52 = .ok (.putfield 29, 3) := by decide +kernel
theorem dX8_init_55 : decode cX8_init 55 = .ok (.aload_n 0, 1) := by decide +kernel
theorem dX8_init_56 : decode cX8_init 56 = .ok (.bipush 6, 2) := by decide +kernel
theorem dX8_init_58 : decode cX8_init 58 = .ok (.newarray .int, 2) := by decide +kernel
theorem dX8_init_60 : decode cX8_init 60 = .ok (.putfield 32, 3) := by decide +kernel
theorem dX8_init_63 : decode cX8_init 63 = .ok (.aload_n 0, 1) := by decide +kernel
theorem dX8_init_64 : decode cX8_init 64 = .ok (.bipush 20, 2) := by decide +kernel
theorem dX8_init_66 : decode cX8_init 66 = .ok (.newarray .int, 2) := by decide +kernel
theorem dX8_init_68 : decode cX8_init 68 = .ok (.putfield 35, 3) := by decide +kernel
theorem dX8_init_71 : decode cX8_init 71 = .ok (.aload_n 0, 1) := by decide +kernel
theorem dX8_init_72 : decode cX8_init 72 = .ok (.bipush 20, 2) := by decide +kernel
theorem dX8_init_74 : decode cX8_init 74 = .ok (.newarray .int, 2) := by decide +kernel
theorem dX8_init_76 : decode cX8_init 76 = .ok (.putfield 38, 3) := by decide +kernel
theorem dX8_init_79 : decode cX8_init 79 = .ok (.aload_n 0, 1) := by decide +kernel
theorem dX8_init_80 : decode cX8_init 80 = .ok (.bipush 20, 2) := by decide +kernel
theorem dX8_init_82 : decode cX8_init 82 = .ok (.newarray .int, 2) := by decide +kernel
theorem dX8_init_84 : decode cX8_init 84 = .ok (.putfield 41, 3) := by decide +kernel
theorem dX8_init_87 : decode cX8_init 87 = .ok (.aload_n 0, 1) := by decide +kernel
theorem dX8_init_88 : decode cX8_init 88 = .ok (.bipush 20, 2) := by decide +kernel
theorem dX8_init_90 : decode cX8_init 90 = .ok (.newarray .int, 2) := by decide +kernel
theorem dX8_init_92 : decode cX8_init 92 = .ok (.putfield 44, 3) := by decide +kernel
theorem dX8_init_95 : decode cX8_init 95 = .ok (.aload_n 0, 1) := by decide +kernel
theorem dX8_init_96 : decode cX8_init 96 = .ok (.bipush 20, 2) := by decide +kernel
theorem dX8_init_98 : decode cX8_init 98 = .ok (.newarray .int, 2) := by decide +kernel
theorem dX8_init_100 : decode cX8_init 100 = .ok (.putfield 47, 3) := by decide +kernel
theorem dX8_init_103 : decode cX8_init 103 = .ok (.aload_n 0, 1) := by decide +kernel
theorem dX8_init_104 : decode cX8_init 104 = .ok (.bipush 20, 2) := by decide +kernel
theorem dX8_init_106 : decode cX8_init 106 = .ok (.newarray .int, 2) := by decide +kernel
theorem dX8_init_108 : decode cX8_init 108 = .ok (.putfield 50, 3) := by decide +kernel
theorem dX8_init_111 : decode cX8_init 111 = .ok (.aload_n 0, 1) := by decide +kernel
theorem dX8_init_112 : decode cX8_init 112 = .ok (.bipush 20, 2) := by decide +kernel
theorem dX8_init_114 : decode cX8_init 114 = .ok (.newarray .int, 2) := by decide +kernel
theorem dX8_init_116 : decode cX8_init 116 = .ok (.putfield 53, 3) := by decide +kernel
theorem dX8_init_119 : decode cX8_init 119 = .ok (.aload_n 0, 1) := by decide +kernel
theorem dX8_init_120 : decode cX8_init 120 = .ok (.bipush 20, 2) := by decide +kernel
theorem dX8_init_122 : decode cX8_init 122 = .ok (.newarray .int, 2) := by decide +kernel
theorem dX8_init_124 : decode cX8_init 124 = .ok (.putfield 56, 3) := by decide +kernel
theorem dX8_init_127 : decode cX8_init 127 = .ok (.aload_n 0, 1) := by decide +kernel
theorem dX8_init_128 : decode cX8_init 128 = .ok (.bipush 20, 2) := by decide +kernel
theorem dX8_init_130 : decode cX8_init 130 = .ok (.newarray .boolean, 2) := by decide +kernel
theorem dX8_init_132 : decode cX8_init 132 = .ok (.putfield 59, 3) := by decide +kernel
theorem dX8_init_135 : decode cX8_init 135 = .ok (.aload_n 0, 1) := by decide +kernel
theorem dX8_init_136 : decode cX8_init 136 = .ok (.bipush 120, 2) := by decide +kernel
theorem dX8_init_138 : decode cX8_init 138 = .ok (.newarray .int, 2) := by decide +kernel
theorem dX8_init_140 : decode cX8_init 140 = .ok (.putfield 63, 3) := by decide +kernel
theorem dX8_init_143 : decode cX8_init 143 = .ok (.aload_n 0, 1) := by decide +kernel
theorem dX8_init_144 : decode cX8_init 144 = .ok (.sipush 5000, 3) := by decide +kernel
theorem dX8_init_147 : decode cX8_init 147 = .ok (.newarray .int, 2) := by decide +kernel
theorem dX8_init_149 : decode cX8_init 149 = .ok (.putfield 66, 3) := by decide +kernel
theorem dX8_init_152 : decode cX8_init 152 = .ok (.aload_n 0, 1) := by decide +kernel
theorem dX8_init_153 : decode cX8_init 153 = .ok (.sipush 5000, 3) := by decide +kernel
theorem dX8_init_156 : decode cX8_init 156 = .ok (.newarray .int, 2) := by decide +kernel
theorem dX8_init_158 : decode cX8_init 158 = .ok (.putfield 69, 3) := by decide +kernel
theorem dX8_init_161 : decode cX8_init 161 = .ok (.aload_n 0, 1) := by decide +kernel
theorem dX8_init_162 : decode cX8_init 162 = .ok (.sipush 5000, 3) := by decide +kernel
theorem dX8_init_165 : decode cX8_init 165 = .ok (.newarray .int, 2) := by decide +kernel
theorem dX8_init_167 : decode cX8_init 167 = .ok (.putfield 72, 3) := by decide +kernel
theorem dX8_init_170 : decode cX8_init 170 = .ok (.aload_n 0, 1) := by decide +kernel
theorem dX8_init_171 : decode cX8_init 171 = .ok (.bipush 6, 2) := by decide +kernel
theorem dX8_init_173 : decode cX8_init 173 = .ok (.newarray .int, 2) := by decide +kernel
theorem dX8_init_175 : decode cX8_init 175 = .ok (.putfield 75, 3) := by decide +kernel
theorem dX8_init_178 : decode cX8_init 178 = .ok (.aload_n 0, 1) := by decide +kernel
theorem dX8_init_179 : decode cX8_init 179 = .ok (.bipush 36, 2) := by decide +kernel
theorem dX8_init_181 : decode cX8_init 181 = .ok (.newarray .int, 2) := by decide +kernel
theorem dX8_init_183 : decode cX8_init 183 = .ok (.putfield 78, 3) := by decide +kernel
theorem dX8_init_186 : decode cX8_init 186 = .ok (.aload_n 0, 1) := by decide +kernel
theorem dX8_init_187 : decode cX8_init 187 = .ok (.bipush 6, 2) := by decide +kernel
theorem dX8_init_189 : decode cX8_init 189 = .ok (.newarray .int, 2) := by decide +kernel
theorem dX8_init_191 : decode cX8_init 191 = .ok (.putfield 81, 3) := by decide +kernel
theorem dX8_init_194 : decode cX8_init 194 = .ok (.aload_n 0, 1) := by decide +kernel
theorem dX8_init_195 : decode cX8_init 195 = .ok (.bipush 36, 2) := by decide +kernel
theorem dX8_init_197 : decode cX8_init 197 = .ok (.newarray .int, 2) := by decide +kernel
theorem dX8_init_199 : decode cX8_init 199 = .ok (.putfield 84, 3) := by decide +kernel
theorem dX8_init_202 : decode cX8_init 202 = .ok (.aload_n 0, 1) := by decide +kernel
theorem dX8_init_203 : decode cX8_init 203 = .ok (.bipush 36, 2) := by decide +kernel
theorem dX8_init_205 : decode cX8_init 205 = .ok (.newarray .int, 2) := by decide +kernel
theorem dX8_init_207 : decode cX8_init 207 = .ok (.putfield 87, 3) := by decide +kernel
theorem dX8_init_210 : decode cX8_init 210 = .ok (.aload_n 0, 1) := by decide +kernel
theorem dX8_init_211 : decode cX8_init 211 = .ok (.bipush 36, 2) := by decide +kernel
theorem dX8_init_213 : decode cX8_init 213 = .ok (.newarray .int, 2) := by decide +kernel
theorem dX8_init_215 : decode cX8_init 215 = .ok (.putfield 90, 3) := by decide +kernel
theorem dX8_init_218 : decode cX8_init 218 = .ok (.aload_n 0, 1) := by decide +kernel
theorem dX8_init_219 : decode cX8_init 219 = .ok (.bipush 36, 2) := by decide +kernel
theorem dX8_init_221 : decode cX8_init 221 = .ok (.newarray .int, 2) := by decide +kernel
theorem dX8_init_223 : decode cX8_init 223 = .ok (.putfield 93, 3) := by decide +kernel
theorem dX8_init_226 : decode cX8_init 226 = .ok (.aload_n 0, 1) := by decide +kernel
theorem dX8_init_227 : decode cX8_init 227 = .ok (.bipush 36, 2) := by decide +kernel
theorem dX8_init_229 : decode cX8_init 229 = .ok (.newarray .int, 2) := by decide +kernel
theorem dX8_init_231 : decode cX8_init 231 = .ok (.putfield 96, 3) := by decide +kernel
theorem dX8_init_234 : decode cX8_init 234 = .ok (.aload_n 0, 1) := by decide +kernel
theorem dX8_init_235 : decode cX8_init 235 = .ok (.bipush 6, 2) := by decide +kernel
theorem dX8_init_237 : decode cX8_init 237 = .ok (.newarray .int, 2) := by decide +kernel
theorem dX8_init_239 : decode cX8_init 239 = .ok (.putfield 99, 3) := by decide +kernel
theorem dX8_init_242 : decode cX8_init 242 = .ok (.aload_n 0, 1) := by decide +kernel
theorem dX8_init_243 : decode cX8_init 243 = .ok (.bipush 6, 2) := by decide +kernel
theorem dX8_init_245 : decode cX8_init 245 = .ok (.newarray .int, 2) := by decide +kernel
theorem dX8_init_247 : decode cX8_init 247 = .ok (.putfield 102, 3) := by decide +kernel
theorem dX8_init_250 : decode cX8_init 250 = .ok (.aload_n 0, 1) := by decide +kernel
theorem dX8_init_251 : decode cX8_init 251 = .ok (.bipush 6, 2) := by decide +kernel
theorem dX8_init_253 : decode cX8_init 253 = .ok (.newarray .int, 2) := by decide +kernel
theorem dX8_init_255 : decode cX8_init 255 = .ok (.putfield 105, 3) := by decide +kernel
theorem dX8_init_258 : decode cX8_init 258 = .ok (.aload_n 0, 1) := by decide +kernel
theorem dX8_init_259 : decode cX8_init 259 = .ok (.bipush 6, 2) := by decide +kernel
theorem dX8_init_261 : decode cX8_init 261 = .ok (.newarray .int, 2) := by decide +kernel
theorem dX8_init_263 : decode cX8_init 263 = .ok (.putfield 108, 3) := by decide +kernel
theorem dX8_init_266 : decode cX8_init 266 = .ok (.aload_n 0, 1) := by decide +kernel
theorem dX8_init_267 : decode cX8_init 267 = .ok (.bipush 6, 2) := by decide +kernel
theorem dX8_init_269 : decode cX8_init 269 = .ok (.newarray .int, 2) := by decide +kernel
theorem dX8_init_271 : decode cX8_init 271 = .ok (.putfield 111, 3) := by decide +kernel
theorem dX8_init_274 : decode cX8_init 274 = .ok (.aload_n 0, 1) := by decide +kernel
theorem dX8_init_275 : decode cX8_init 275 = .ok (.sipush 3001, 3) := by decide +kernel
theorem dX8_init_278 : decode cX8_init 278 = .ok (.newarray .int, 2) := by decide +kernel
theorem dX8_init_280 : decode cX8_init 280 = .ok (.putfield 114, 3) := by decide +kernel
theorem dX8_init_283 : decode cX8_init 283 = .ok (.return_, 1) := by decide +kernel
def w_X8 (g : ZG) (o : Nat) (qs : List Nat) : va_W := (o, .inr (8, ((((((((((((((((((((((((((((((((((([.int 0, .int 0, .int 0, .int 0, .null, .null, .null, .null, .null, .null, .int 0, .null, .null, .null, .null, .null, .null, .null, .null, .null, .null, .int 0, .null, .null, .null, .int 0, .null, .null, .int 0, .null, .null, .null, .null, .null, .null, .int 0, .null, .null, .null, .null, .null, .int 0, .int 0, .int 0, .int 0, .null, .int 0].set 1 (.int 20)).set 2 (.int 2)).set 4 (.ref (qs.getD 0 0))).set 5 (.ref (qs.getD 1 0))).set 6 (.ref (qs.getD 2 0))).set 7 (.ref (qs.getD 3 0))).set 8 (.ref (qs.getD 4 0))).set 9 (.ref (qs.getD 5 0))).set 11 (.ref (qs.getD 6 0))).set 12 (.ref (qs.getD 7 0))).set 13 (.ref (qs.getD 8 0))).set 14 (.ref (qs.getD 9 0))).set 15 (.ref (qs.getD 10 0))).set 16 (.ref (qs.getD 11 0))).set 17 (.ref (qs.getD 12 0))).set 18 (.ref (qs.getD 13 0))).set 19 (.ref (qs.getD 14 0))).set 20 (.ref (qs.getD 15 0))).set 22 (.ref (qs.getD 16 0))).set 23 (.ref (qs.getD 17 0))).set 24 (.ref (qs.getD 18 0))).set 26 (.ref (qs.getD 19 0))).set 27 (.ref (qs.getD 20 0))).set 29 (.ref (qs.getD 21 0))).set 30 (.ref (qs.getD 22 0))).set 31 (.ref (qs.getD 23 0))).set 32 (.ref (qs.getD 24 0))).set 33 (.ref (qs.getD 25 0))).set 34 (.ref (qs.getD 26 0))).set 36 (.ref (qs.getD 27 0))).set 37 (.ref (qs.getD 28 0))).set 38 (.ref (qs.getD 29 0))).set 39 (.ref (qs.getD 30 0))).set 40 (.ref (qs.getD 31 0))).set 45 (.ref (qs.getD 32 0))))) :: ((((((((((((((((((((((((((((((((([] ++ [((qs.getD 0 0), .inl (g.2.1 0, (6, .inl (fun _ => 0))))]) ++ [((qs.getD 1 0), .inl (g.2.1 0, (6, .inl (fun _ => 0))))]) ++ [((qs.getD 2 0), .inl (g.2.1 0, (6, .inl (fun _ => 0))))]) ++ [((qs.getD 3 0), .inl (g.2.1 0, (6, .inl (fun _ => 0))))]) ++ [((qs.getD 4 0), .inl (g.2.1 0, (6, .inl (fun _ => 0))))]) ++ [((qs.getD 5 0), .inl (g.2.1 0, (6, .inl (fun _ => 0))))]) ++ [((qs.getD 6 0), .inl (g.2.1 0, (20, .inl (fun _ => 0))))]) ++ [((qs.getD 7 0), .inl (g.2.1 0, (20, .inl (fun _ => 0))))]) ++ [((qs.getD 8 0), .inl (g.2.1 0, (20, .inl (fun _ => 0))))]) ++ [((qs.getD 9 0), .inl (g.2.1 0, (20, .inl (fun _ => 0))))]) ++ [((qs.getD 10 0), .inl (g.2.1 0, (20, .inl (fun _ => 0))))]) ++ [((qs.getD 11 0), .inl (g.2.1 0, (20, .inl (fun _ => 0))))]) ++ [((qs.getD 12 0), .inl (g.2.1 0, (20, .inl (fun _ => 0))))]) ++ [((qs.getD 13 0), .inl (g.2.1 0, (20, .inl (fun _ => 0))))]) ++ [((qs.getD 14 0), .inl (g.2.1 1, (20, .inl (fun _ => 0))))]) ++ [((qs.getD 15 0), .inl (g.2.1 0, (120, .inl (fun _ => 0))))]) ++ [((qs.getD 16 0), .inl (g.2.1 0, (5000, .inl (fun _ => 0))))]) ++ [((qs.getD 17 0), .inl (g.2.1 0, (5000, .inl (fun _ => 0))))]) ++ [((qs.getD 18 0), .inl (g.2.1 0, (5000, .inl (fun _ => 0))))]) ++ [((qs.getD 19 0), .inl (g.2.1 0, (6, .inl (fun _ => 0))))]) ++ [((qs.getD 20 0), .inl (g.2.1 0, (36, .inl (fun _ => 0))))]) ++ [((qs.getD 21 0), .inl (g.2.1 0, (6, .inl (fun _ => 0))))]) ++ [((qs.getD 22 0), .inl (g.2.1 0, (36, .inl (fun _ => 0))))]) ++ [((qs.getD 23 0), .inl (g.2.1 0, (36, .inl (fun _ => 0))))]) ++ [((qs.getD 24 0), .inl (g.2.1 0, (36, .inl (fun _ => 0))))]) ++ [((qs.getD 25 0), .inl (g.2.1 0, (36, .inl (fun _ => 0))))]) ++ [((qs.getD 26 0), .inl (g.2.1 0, (36, .inl (fun _ => 0))))]) ++ [((qs.getD 27 0), .inl (g.2.1 0, (6, .inl (fun _ => 0))))]) ++ [((qs.getD 28 0), .inl (g.2.1 0, (6, .inl (fun _ => 0))))]) ++ [((qs.getD 29 0), .inl (g.2.1 0, (6, .inl (fun _ => 0))))]) ++ [((qs.getD 30 0), .inl (g.2.1 0, (6, .inl (fun _ => 0))))]) ++ [((qs.getD 31 0), .inl (g.2.1 0, (6, .inl (fun _ => 0))))]) ++ [((qs.getD 32 0), .inl (g.2.1 0, (3001, .inl (fun _ => 0))))])
set_option maxRecDepth 100000 in
set_option maxHeartbeats 4000000 in
theorem zmk_X8 (l : Launch) (g : ZG) : zMk l yX8_init cX8_init 1 { frames := 1, cells := 33, slots := 18595, locals := 12 } 33 18595 g [] 8 [.int 0, .int 0, .int 0, .int 0, .null, .null, .null, .null, .null, .null, .int 0, .null, .null, .null, .null, .null, .null, .null, .null, .null, .null, .int 0, .null, .null, .null, .int 0, .null, .null, .int 0, .null, .null, .null, .null, .null, .null, .int 0, .null, .null, .null, .null, .null, .int 0, .int 0, .int 0, .int 0, .null, .int 0] (w_X8 g) := by
  refine zMk_of (by decide +kernel) rfl (fun o => (Nat.le_of_ble_eq_true rfl)) (fun o p e s m args below meth c A ls B hin hr hlk hP hD hS hl => ?_)
  have hl : lv_has ls 1 [(0, .ref o)] := hl
  refine lv_aload_n B.hx B.hb dX8_init_0 rfl (lv_at hl 0 rfl) ?_
  refine zc_obj B ⟨(Nat.le_of_ble_eq_true rfl), (Nat.le_of_ble_eq_true rfl)⟩ hl.1 zv_857 zv_65 zv_66 dX8_init_1 ?_
  refine lv_aload_n B.hx B.hb dX8_init_4 rfl (lv_at hl 0 rfl) ?_
  refine lv_bipush (v := 20) B.hx B.hb dX8_init_5 (by decide) ?_
  refine zc_put (f := 1) (ft := tyX8 1) B hin zK8 (by decide) zv_859 rfl rfl (tyX8_ok 1 (by decide)) rfl rfl rfl hP hD hS dX8_init_7 (fun H locs hP hD hS hfl => ?_)
  refine lv_aload_n B.hx B.hb dX8_init_10 rfl (lv_at hl 0 rfl) ?_
  refine lv_iconst (v := 2) B.hx B.hb dX8_init_11 (by decide) ?_
  refine zc_put (f := 2) (ft := tyX8 2) B hin zK8 (by decide) zv_860 rfl rfl (tyX8_ok 2 (by decide)) rfl rfl hfl hP hD hS dX8_init_12 (fun H locs hP hD hS hfl => ?_)
  refine lv_aload_n B.hx B.hb dX8_init_15 rfl (lv_at hl 0 rfl) ?_
  refine lv_bipush (v := 6) B.hx B.hb dX8_init_16 (by decide) ?_
  refine zc_arr (k := 0) (ty := .int) (N' := 6) (f := 4) (ft := tyX8 4) B hin zK8 (by decide) zv_862 rfl rfl (tyX8_ok 4 (by decide)) (fun _ => rfl) (fun _ => rfl) hfl zv_99 rfl (fun _ => rfl) (fun _ h => h) (fun _ => rfl) hP hD hS (by decide) rfl (Nat.le_of_ble_eq_true rfl) (Nat.le_of_ble_eq_true rfl) (Nat.le_of_ble_eq_true rfl) dX8_init_18 dX8_init_20 (fun q1 H locs hP hD hS hfl => ?_)
  refine lv_aload_n B.hx B.hb dX8_init_23 rfl (lv_at hl 0 rfl) ?_
  refine lv_bipush (v := 6) B.hx B.hb dX8_init_24 (by decide) ?_
  refine zc_arr (k := 0) (ty := .int) (N' := 6) (f := 5) (ft := tyX8 5) B hin zK8 (by decide) zv_863 rfl rfl (tyX8_ok 5 (by decide)) (fun _ => rfl) (fun _ => rfl) hfl zv_99 rfl (fun _ => rfl) (fun _ h => h) (fun _ => rfl) hP hD hS (by decide) rfl (Nat.le_of_ble_eq_true rfl) (Nat.le_of_ble_eq_true rfl) (Nat.le_of_ble_eq_true rfl) dX8_init_26 dX8_init_28 (fun q2 H locs hP hD hS hfl => ?_)
  refine lv_aload_n B.hx B.hb dX8_init_31 rfl (lv_at hl 0 rfl) ?_
  refine lv_bipush (v := 6) B.hx B.hb dX8_init_32 (by decide) ?_
  refine zc_arr (k := 0) (ty := .int) (N' := 6) (f := 6) (ft := tyX8 6) B hin zK8 (by decide) zv_864 rfl rfl (tyX8_ok 6 (by decide)) (fun _ => rfl) (fun _ => rfl) hfl zv_99 rfl (fun _ => rfl) (fun _ h => h) (fun _ => rfl) hP hD hS (by decide) rfl (Nat.le_of_ble_eq_true rfl) (Nat.le_of_ble_eq_true rfl) (Nat.le_of_ble_eq_true rfl) dX8_init_34 dX8_init_36 (fun q3 H locs hP hD hS hfl => ?_)
  refine lv_aload_n B.hx B.hb dX8_init_39 rfl (lv_at hl 0 rfl) ?_
  refine lv_bipush (v := 6) B.hx B.hb dX8_init_40 (by decide) ?_
  refine zc_arr (k := 0) (ty := .int) (N' := 6) (f := 7) (ft := tyX8 7) B hin zK8 (by decide) zv_865 rfl rfl (tyX8_ok 7 (by decide)) (fun _ => rfl) (fun _ => rfl) hfl zv_99 rfl (fun _ => rfl) (fun _ h => h) (fun _ => rfl) hP hD hS (by decide) rfl (Nat.le_of_ble_eq_true rfl) (Nat.le_of_ble_eq_true rfl) (Nat.le_of_ble_eq_true rfl) dX8_init_42 dX8_init_44 (fun q4 H locs hP hD hS hfl => ?_)
  refine lv_aload_n B.hx B.hb dX8_init_47 rfl (lv_at hl 0 rfl) ?_
  refine lv_bipush (v := 6) B.hx B.hb dX8_init_48 (by decide) ?_
  refine zc_arr (k := 0) (ty := .int) (N' := 6) (f := 8) (ft := tyX8 8) B hin zK8 (by decide) zv_866 rfl rfl (tyX8_ok 8 (by decide)) (fun _ => rfl) (fun _ => rfl) hfl zv_99 rfl (fun _ => rfl) (fun _ h => h) (fun _ => rfl) hP hD hS (by decide) rfl (Nat.le_of_ble_eq_true rfl) (Nat.le_of_ble_eq_true rfl) (Nat.le_of_ble_eq_true rfl) dX8_init_50 dX8_init_52 (fun q5 H locs hP hD hS hfl => ?_)
  refine lv_aload_n B.hx B.hb dX8_init_55 rfl (lv_at hl 0 rfl) ?_
  refine lv_bipush (v := 6) B.hx B.hb dX8_init_56 (by decide) ?_
  refine zc_arr (k := 0) (ty := .int) (N' := 6) (f := 9) (ft := tyX8 9) B hin zK8 (by decide) zv_867 rfl rfl (tyX8_ok 9 (by decide)) (fun _ => rfl) (fun _ => rfl) hfl zv_99 rfl (fun _ => rfl) (fun _ h => h) (fun _ => rfl) hP hD hS (by decide) rfl (Nat.le_of_ble_eq_true rfl) (Nat.le_of_ble_eq_true rfl) (Nat.le_of_ble_eq_true rfl) dX8_init_58 dX8_init_60 (fun q6 H locs hP hD hS hfl => ?_)
  refine lv_aload_n B.hx B.hb dX8_init_63 rfl (lv_at hl 0 rfl) ?_
  refine lv_bipush (v := 20) B.hx B.hb dX8_init_64 (by decide) ?_
  refine zc_arr (k := 0) (ty := .int) (N' := 20) (f := 11) (ft := tyX8 11) B hin zK8 (by decide) zv_869 rfl rfl (tyX8_ok 11 (by decide)) (fun _ => rfl) (fun _ => rfl) hfl zv_99 rfl (fun _ => rfl) (fun _ h => h) (fun _ => rfl) hP hD hS (by decide) rfl (Nat.le_of_ble_eq_true rfl) (Nat.le_of_ble_eq_true rfl) (Nat.le_of_ble_eq_true rfl) dX8_init_66 dX8_init_68 (fun q7 H locs hP hD hS hfl => ?_)
  refine lv_aload_n B.hx B.hb dX8_init_71 rfl (lv_at hl 0 rfl) ?_
  refine lv_bipush (v := 20) B.hx B.hb dX8_init_72 (by decide) ?_
  refine zc_arr (k := 0) (ty := .int) (N' := 20) (f := 12) (ft := tyX8 12) B hin zK8 (by decide) zv_870 rfl rfl (tyX8_ok 12 (by decide)) (fun _ => rfl) (fun _ => rfl) hfl zv_99 rfl (fun _ => rfl) (fun _ h => h) (fun _ => rfl) hP hD hS (by decide) rfl (Nat.le_of_ble_eq_true rfl) (Nat.le_of_ble_eq_true rfl) (Nat.le_of_ble_eq_true rfl) dX8_init_74 dX8_init_76 (fun q8 H locs hP hD hS hfl => ?_)
  refine lv_aload_n B.hx B.hb dX8_init_79 rfl (lv_at hl 0 rfl) ?_
  refine lv_bipush (v := 20) B.hx B.hb dX8_init_80 (by decide) ?_
  refine zc_arr (k := 0) (ty := .int) (N' := 20) (f := 13) (ft := tyX8 13) B hin zK8 (by decide) zv_871 rfl rfl (tyX8_ok 13 (by decide)) (fun _ => rfl) (fun _ => rfl) hfl zv_99 rfl (fun _ => rfl) (fun _ h => h) (fun _ => rfl) hP hD hS (by decide) rfl (Nat.le_of_ble_eq_true rfl) (Nat.le_of_ble_eq_true rfl) (Nat.le_of_ble_eq_true rfl) dX8_init_82 dX8_init_84 (fun q9 H locs hP hD hS hfl => ?_)
  refine lv_aload_n B.hx B.hb dX8_init_87 rfl (lv_at hl 0 rfl) ?_
  refine lv_bipush (v := 20) B.hx B.hb dX8_init_88 (by decide) ?_
  refine zc_arr (k := 0) (ty := .int) (N' := 20) (f := 14) (ft := tyX8 14) B hin zK8 (by decide) zv_872 rfl rfl (tyX8_ok 14 (by decide)) (fun _ => rfl) (fun _ => rfl) hfl zv_99 rfl (fun _ => rfl) (fun _ h => h) (fun _ => rfl) hP hD hS (by decide) rfl (Nat.le_of_ble_eq_true rfl) (Nat.le_of_ble_eq_true rfl) (Nat.le_of_ble_eq_true rfl) dX8_init_90 dX8_init_92 (fun q10 H locs hP hD hS hfl => ?_)
  refine lv_aload_n B.hx B.hb dX8_init_95 rfl (lv_at hl 0 rfl) ?_
  refine lv_bipush (v := 20) B.hx B.hb dX8_init_96 (by decide) ?_
  refine zc_arr (k := 0) (ty := .int) (N' := 20) (f := 15) (ft := tyX8 15) B hin zK8 (by decide) zv_873 rfl rfl (tyX8_ok 15 (by decide)) (fun _ => rfl) (fun _ => rfl) hfl zv_99 rfl (fun _ => rfl) (fun _ h => h) (fun _ => rfl) hP hD hS (by decide) rfl (Nat.le_of_ble_eq_true rfl) (Nat.le_of_ble_eq_true rfl) (Nat.le_of_ble_eq_true rfl) dX8_init_98 dX8_init_100 (fun q11 H locs hP hD hS hfl => ?_)
  refine lv_aload_n B.hx B.hb dX8_init_103 rfl (lv_at hl 0 rfl) ?_
  refine lv_bipush (v := 20) B.hx B.hb dX8_init_104 (by decide) ?_
  refine zc_arr (k := 0) (ty := .int) (N' := 20) (f := 16) (ft := tyX8 16) B hin zK8 (by decide) zv_874 rfl rfl (tyX8_ok 16 (by decide)) (fun _ => rfl) (fun _ => rfl) hfl zv_99 rfl (fun _ => rfl) (fun _ h => h) (fun _ => rfl) hP hD hS (by decide) rfl (Nat.le_of_ble_eq_true rfl) (Nat.le_of_ble_eq_true rfl) (Nat.le_of_ble_eq_true rfl) dX8_init_106 dX8_init_108 (fun q12 H locs hP hD hS hfl => ?_)
  refine lv_aload_n B.hx B.hb dX8_init_111 rfl (lv_at hl 0 rfl) ?_
  refine lv_bipush (v := 20) B.hx B.hb dX8_init_112 (by decide) ?_
  refine zc_arr (k := 0) (ty := .int) (N' := 20) (f := 17) (ft := tyX8 17) B hin zK8 (by decide) zv_875 rfl rfl (tyX8_ok 17 (by decide)) (fun _ => rfl) (fun _ => rfl) hfl zv_99 rfl (fun _ => rfl) (fun _ h => h) (fun _ => rfl) hP hD hS (by decide) rfl (Nat.le_of_ble_eq_true rfl) (Nat.le_of_ble_eq_true rfl) (Nat.le_of_ble_eq_true rfl) dX8_init_114 dX8_init_116 (fun q13 H locs hP hD hS hfl => ?_)
  refine lv_aload_n B.hx B.hb dX8_init_119 rfl (lv_at hl 0 rfl) ?_
  refine lv_bipush (v := 20) B.hx B.hb dX8_init_120 (by decide) ?_
  refine zc_arr (k := 0) (ty := .int) (N' := 20) (f := 18) (ft := tyX8 18) B hin zK8 (by decide) zv_876 rfl rfl (tyX8_ok 18 (by decide)) (fun _ => rfl) (fun _ => rfl) hfl zv_99 rfl (fun _ => rfl) (fun _ h => h) (fun _ => rfl) hP hD hS (by decide) rfl (Nat.le_of_ble_eq_true rfl) (Nat.le_of_ble_eq_true rfl) (Nat.le_of_ble_eq_true rfl) dX8_init_122 dX8_init_124 (fun q14 H locs hP hD hS hfl => ?_)
  refine lv_aload_n B.hx B.hb dX8_init_127 rfl (lv_at hl 0 rfl) ?_
  refine lv_bipush (v := 20) B.hx B.hb dX8_init_128 (by decide) ?_
  refine zc_arr (k := 1) (ty := .boolean) (N' := 20) (f := 19) (ft := tyX8 19) B hin zK8 (by decide) zv_877 rfl rfl (tyX8_ok 19 (by decide)) (fun _ => rfl) (fun _ => rfl) hfl zv_1000 rfl (fun _ => rfl) (fun _ h => h) (fun _ => rfl) hP hD hS (by decide) rfl (Nat.le_of_ble_eq_true rfl) (Nat.le_of_ble_eq_true rfl) (Nat.le_of_ble_eq_true rfl) dX8_init_130 dX8_init_132 (fun q15 H locs hP hD hS hfl => ?_)
  refine lv_aload_n B.hx B.hb dX8_init_135 rfl (lv_at hl 0 rfl) ?_
  refine lv_bipush (v := 120) B.hx B.hb dX8_init_136 (by decide) ?_
  refine zc_arr (k := 0) (ty := .int) (N' := 120) (f := 20) (ft := tyX8 20) B hin zK8 (by decide) zv_878 rfl rfl (tyX8_ok 20 (by decide)) (fun _ => rfl) (fun _ => rfl) hfl zv_99 rfl (fun _ => rfl) (fun _ h => h) (fun _ => rfl) hP hD hS (by decide) rfl (Nat.le_of_ble_eq_true rfl) (Nat.le_of_ble_eq_true rfl) (Nat.le_of_ble_eq_true rfl) dX8_init_138 dX8_init_140 (fun q16 H locs hP hD hS hfl => ?_)
  refine lv_aload_n B.hx B.hb dX8_init_143 rfl (lv_at hl 0 rfl) ?_
  refine lv_sipush (v := 5000) B.hx B.hb dX8_init_144 (by decide) ?_
  refine zc_arr (k := 0) (ty := .int) (N' := 5000) (f := 22) (ft := tyX8 22) B hin zK8 (by decide) zv_880 rfl rfl (tyX8_ok 22 (by decide)) (fun _ => rfl) (fun _ => rfl) hfl zv_99 rfl (fun _ => rfl) (fun _ h => h) (fun _ => rfl) hP hD hS (by decide) rfl (Nat.le_of_ble_eq_true rfl) (Nat.le_of_ble_eq_true rfl) (Nat.le_of_ble_eq_true rfl) dX8_init_147 dX8_init_149 (fun q17 H locs hP hD hS hfl => ?_)
  refine lv_aload_n B.hx B.hb dX8_init_152 rfl (lv_at hl 0 rfl) ?_
  refine lv_sipush (v := 5000) B.hx B.hb dX8_init_153 (by decide) ?_
  refine zc_arr (k := 0) (ty := .int) (N' := 5000) (f := 23) (ft := tyX8 23) B hin zK8 (by decide) zv_881 rfl rfl (tyX8_ok 23 (by decide)) (fun _ => rfl) (fun _ => rfl) hfl zv_99 rfl (fun _ => rfl) (fun _ h => h) (fun _ => rfl) hP hD hS (by decide) rfl (Nat.le_of_ble_eq_true rfl) (Nat.le_of_ble_eq_true rfl) (Nat.le_of_ble_eq_true rfl) dX8_init_156 dX8_init_158 (fun q18 H locs hP hD hS hfl => ?_)
  refine lv_aload_n B.hx B.hb dX8_init_161 rfl (lv_at hl 0 rfl) ?_
  refine lv_sipush (v := 5000) B.hx B.hb dX8_init_162 (by decide) ?_
  refine zc_arr (k := 0) (ty := .int) (N' := 5000) (f := 24) (ft := tyX8 24) B hin zK8 (by decide) zv_882 rfl rfl (tyX8_ok 24 (by decide)) (fun _ => rfl) (fun _ => rfl) hfl zv_99 rfl (fun _ => rfl) (fun _ h => h) (fun _ => rfl) hP hD hS (by decide) rfl (Nat.le_of_ble_eq_true rfl) (Nat.le_of_ble_eq_true rfl) (Nat.le_of_ble_eq_true rfl) dX8_init_165 dX8_init_167 (fun q19 H locs hP hD hS hfl => ?_)
  refine lv_aload_n B.hx B.hb dX8_init_170 rfl (lv_at hl 0 rfl) ?_
  refine lv_bipush (v := 6) B.hx B.hb dX8_init_171 (by decide) ?_
  refine zc_arr (k := 0) (ty := .int) (N' := 6) (f := 26) (ft := tyX8 26) B hin zK8 (by decide) zv_884 rfl rfl (tyX8_ok 26 (by decide)) (fun _ => rfl) (fun _ => rfl) hfl zv_99 rfl (fun _ => rfl) (fun _ h => h) (fun _ => rfl) hP hD hS (by decide) rfl (Nat.le_of_ble_eq_true rfl) (Nat.le_of_ble_eq_true rfl) (Nat.le_of_ble_eq_true rfl) dX8_init_173 dX8_init_175 (fun q20 H locs hP hD hS hfl => ?_)
  refine lv_aload_n B.hx B.hb dX8_init_178 rfl (lv_at hl 0 rfl) ?_
  refine lv_bipush (v := 36) B.hx B.hb dX8_init_179 (by decide) ?_
  refine zc_arr (k := 0) (ty := .int) (N' := 36) (f := 27) (ft := tyX8 27) B hin zK8 (by decide) zv_885 rfl rfl (tyX8_ok 27 (by decide)) (fun _ => rfl) (fun _ => rfl) hfl zv_99 rfl (fun _ => rfl) (fun _ h => h) (fun _ => rfl) hP hD hS (by decide) rfl (Nat.le_of_ble_eq_true rfl) (Nat.le_of_ble_eq_true rfl) (Nat.le_of_ble_eq_true rfl) dX8_init_181 dX8_init_183 (fun q21 H locs hP hD hS hfl => ?_)
  refine lv_aload_n B.hx B.hb dX8_init_186 rfl (lv_at hl 0 rfl) ?_
  refine lv_bipush (v := 6) B.hx B.hb dX8_init_187 (by decide) ?_
  refine zc_arr (k := 0) (ty := .int) (N' := 6) (f := 29) (ft := tyX8 29) B hin zK8 (by decide) zv_887 rfl rfl (tyX8_ok 29 (by decide)) (fun _ => rfl) (fun _ => rfl) hfl zv_99 rfl (fun _ => rfl) (fun _ h => h) (fun _ => rfl) hP hD hS (by decide) rfl (Nat.le_of_ble_eq_true rfl) (Nat.le_of_ble_eq_true rfl) (Nat.le_of_ble_eq_true rfl) dX8_init_189 dX8_init_191 (fun q22 H locs hP hD hS hfl => ?_)
  refine lv_aload_n B.hx B.hb dX8_init_194 rfl (lv_at hl 0 rfl) ?_
  refine lv_bipush (v := 36) B.hx B.hb dX8_init_195 (by decide) ?_
  refine zc_arr (k := 0) (ty := .int) (N' := 36) (f := 30) (ft := tyX8 30) B hin zK8 (by decide) zv_888 rfl rfl (tyX8_ok 30 (by decide)) (fun _ => rfl) (fun _ => rfl) hfl zv_99 rfl (fun _ => rfl) (fun _ h => h) (fun _ => rfl) hP hD hS (by decide) rfl (Nat.le_of_ble_eq_true rfl) (Nat.le_of_ble_eq_true rfl) (Nat.le_of_ble_eq_true rfl) dX8_init_197 dX8_init_199 (fun q23 H locs hP hD hS hfl => ?_)
  refine lv_aload_n B.hx B.hb dX8_init_202 rfl (lv_at hl 0 rfl) ?_
  refine lv_bipush (v := 36) B.hx B.hb dX8_init_203 (by decide) ?_
  refine zc_arr (k := 0) (ty := .int) (N' := 36) (f := 31) (ft := tyX8 31) B hin zK8 (by decide) zv_889 rfl rfl (tyX8_ok 31 (by decide)) (fun _ => rfl) (fun _ => rfl) hfl zv_99 rfl (fun _ => rfl) (fun _ h => h) (fun _ => rfl) hP hD hS (by decide) rfl (Nat.le_of_ble_eq_true rfl) (Nat.le_of_ble_eq_true rfl) (Nat.le_of_ble_eq_true rfl) dX8_init_205 dX8_init_207 (fun q24 H locs hP hD hS hfl => ?_)
  refine lv_aload_n B.hx B.hb dX8_init_210 rfl (lv_at hl 0 rfl) ?_
  refine lv_bipush (v := 36) B.hx B.hb dX8_init_211 (by decide) ?_
  refine zc_arr (k := 0) (ty := .int) (N' := 36) (f := 32) (ft := tyX8 32) B hin zK8 (by decide) zv_890 rfl rfl (tyX8_ok 32 (by decide)) (fun _ => rfl) (fun _ => rfl) hfl zv_99 rfl (fun _ => rfl) (fun _ h => h) (fun _ => rfl) hP hD hS (by decide) rfl (Nat.le_of_ble_eq_true rfl) (Nat.le_of_ble_eq_true rfl) (Nat.le_of_ble_eq_true rfl) dX8_init_213 dX8_init_215 (fun q25 H locs hP hD hS hfl => ?_)
  refine lv_aload_n B.hx B.hb dX8_init_218 rfl (lv_at hl 0 rfl) ?_
  refine lv_bipush (v := 36) B.hx B.hb dX8_init_219 (by decide) ?_
  refine zc_arr (k := 0) (ty := .int) (N' := 36) (f := 33) (ft := tyX8 33) B hin zK8 (by decide) zv_891 rfl rfl (tyX8_ok 33 (by decide)) (fun _ => rfl) (fun _ => rfl) hfl zv_99 rfl (fun _ => rfl) (fun _ h => h) (fun _ => rfl) hP hD hS (by decide) rfl (Nat.le_of_ble_eq_true rfl) (Nat.le_of_ble_eq_true rfl) (Nat.le_of_ble_eq_true rfl) dX8_init_221 dX8_init_223 (fun q26 H locs hP hD hS hfl => ?_)
  refine lv_aload_n B.hx B.hb dX8_init_226 rfl (lv_at hl 0 rfl) ?_
  refine lv_bipush (v := 36) B.hx B.hb dX8_init_227 (by decide) ?_
  refine zc_arr (k := 0) (ty := .int) (N' := 36) (f := 34) (ft := tyX8 34) B hin zK8 (by decide) zv_892 rfl rfl (tyX8_ok 34 (by decide)) (fun _ => rfl) (fun _ => rfl) hfl zv_99 rfl (fun _ => rfl) (fun _ h => h) (fun _ => rfl) hP hD hS (by decide) rfl (Nat.le_of_ble_eq_true rfl) (Nat.le_of_ble_eq_true rfl) (Nat.le_of_ble_eq_true rfl) dX8_init_229 dX8_init_231 (fun q27 H locs hP hD hS hfl => ?_)
  refine lv_aload_n B.hx B.hb dX8_init_234 rfl (lv_at hl 0 rfl) ?_
  refine lv_bipush (v := 6) B.hx B.hb dX8_init_235 (by decide) ?_
  refine zc_arr (k := 0) (ty := .int) (N' := 6) (f := 36) (ft := tyX8 36) B hin zK8 (by decide) zv_894 rfl rfl (tyX8_ok 36 (by decide)) (fun _ => rfl) (fun _ => rfl) hfl zv_99 rfl (fun _ => rfl) (fun _ h => h) (fun _ => rfl) hP hD hS (by decide) rfl (Nat.le_of_ble_eq_true rfl) (Nat.le_of_ble_eq_true rfl) (Nat.le_of_ble_eq_true rfl) dX8_init_237 dX8_init_239 (fun q28 H locs hP hD hS hfl => ?_)
  refine lv_aload_n B.hx B.hb dX8_init_242 rfl (lv_at hl 0 rfl) ?_
  refine lv_bipush (v := 6) B.hx B.hb dX8_init_243 (by decide) ?_
  refine zc_arr (k := 0) (ty := .int) (N' := 6) (f := 37) (ft := tyX8 37) B hin zK8 (by decide) zv_895 rfl rfl (tyX8_ok 37 (by decide)) (fun _ => rfl) (fun _ => rfl) hfl zv_99 rfl (fun _ => rfl) (fun _ h => h) (fun _ => rfl) hP hD hS (by decide) rfl (Nat.le_of_ble_eq_true rfl) (Nat.le_of_ble_eq_true rfl) (Nat.le_of_ble_eq_true rfl) dX8_init_245 dX8_init_247 (fun q29 H locs hP hD hS hfl => ?_)
  refine lv_aload_n B.hx B.hb dX8_init_250 rfl (lv_at hl 0 rfl) ?_
  refine lv_bipush (v := 6) B.hx B.hb dX8_init_251 (by decide) ?_
  refine zc_arr (k := 0) (ty := .int) (N' := 6) (f := 38) (ft := tyX8 38) B hin zK8 (by decide) zv_896 rfl rfl (tyX8_ok 38 (by decide)) (fun _ => rfl) (fun _ => rfl) hfl zv_99 rfl (fun _ => rfl) (fun _ h => h) (fun _ => rfl) hP hD hS (by decide) rfl (Nat.le_of_ble_eq_true rfl) (Nat.le_of_ble_eq_true rfl) (Nat.le_of_ble_eq_true rfl) dX8_init_253 dX8_init_255 (fun q30 H locs hP hD hS hfl => ?_)
  refine lv_aload_n B.hx B.hb dX8_init_258 rfl (lv_at hl 0 rfl) ?_
  refine lv_bipush (v := 6) B.hx B.hb dX8_init_259 (by decide) ?_
  refine zc_arr (k := 0) (ty := .int) (N' := 6) (f := 39) (ft := tyX8 39) B hin zK8 (by decide) zv_897 rfl rfl (tyX8_ok 39 (by decide)) (fun _ => rfl) (fun _ => rfl) hfl zv_99 rfl (fun _ => rfl) (fun _ h => h) (fun _ => rfl) hP hD hS (by decide) rfl (Nat.le_of_ble_eq_true rfl) (Nat.le_of_ble_eq_true rfl) (Nat.le_of_ble_eq_true rfl) dX8_init_261 dX8_init_263 (fun q31 H locs hP hD hS hfl => ?_)
  refine lv_aload_n B.hx B.hb dX8_init_266 rfl (lv_at hl 0 rfl) ?_
  refine lv_bipush (v := 6) B.hx B.hb dX8_init_267 (by decide) ?_
  refine zc_arr (k := 0) (ty := .int) (N' := 6) (f := 40) (ft := tyX8 40) B hin zK8 (by decide) zv_898 rfl rfl (tyX8_ok 40 (by decide)) (fun _ => rfl) (fun _ => rfl) hfl zv_99 rfl (fun _ => rfl) (fun _ h => h) (fun _ => rfl) hP hD hS (by decide) rfl (Nat.le_of_ble_eq_true rfl) (Nat.le_of_ble_eq_true rfl) (Nat.le_of_ble_eq_true rfl) dX8_init_269 dX8_init_271 (fun q32 H locs hP hD hS hfl => ?_)
  refine lv_aload_n B.hx B.hb dX8_init_274 rfl (lv_at hl 0 rfl) ?_
  refine lv_sipush (v := 3001) B.hx B.hb dX8_init_275 (by decide) ?_
  refine zc_arr (k := 0) (ty := .int) (N' := 3001) (f := 45) (ft := tyX8 45) B hin zK8 (by decide) zv_903 rfl rfl (tyX8_ok 45 (by decide)) (fun _ => rfl) (fun _ => rfl) hfl zv_99 rfl (fun _ => rfl) (fun _ h => h) (fun _ => rfl) hP hD hS (by decide) rfl (Nat.le_of_ble_eq_true rfl) (Nat.le_of_ble_eq_true rfl) (Nat.le_of_ble_eq_true rfl) dX8_init_278 dX8_init_280 (fun q33 H locs hP hD hS hfl => ?_)
  exact zc_vret (w1 := w_X8 g) [q1, q2, q3, q4, q5, q6, q7, q8, q9, q10, q11, q12, q13, q14, q15, q16, q17, q18, q19, q20, q21, q22, q23, q24, q25, q26, q27, q28, q29, q30, q31, q32, q33] B hr hlk hP hD hS dX8_init_283
set_option maxRecDepth 100000 in
set_option maxHeartbeats 4000000 in
theorem w_X8_eq (g : ZG) (o : Nat) (qs : List Nat) : w_X8 g o qs = [(o, .inr (8, [.int 0, .int 20, .int 2, .int 0, .ref (qs.getD 0 0), .ref (qs.getD 1 0), .ref (qs.getD 2 0), .ref (qs.getD 3 0), .ref (qs.getD 4 0), .ref (qs.getD 5 0), .int 0, .ref (qs.getD 6 0), .ref (qs.getD 7 0), .ref (qs.getD 8 0), .ref (qs.getD 9 0), .ref (qs.getD 10 0), .ref (qs.getD 11 0), .ref (qs.getD 12 0), .ref (qs.getD 13 0), .ref (qs.getD 14 0), .ref (qs.getD 15 0), .int 0, .ref (qs.getD 16 0), .ref (qs.getD 17 0), .ref (qs.getD 18 0), .int 0, .ref (qs.getD 19 0), .ref (qs.getD 20 0), .int 0, .ref (qs.getD 21 0), .ref (qs.getD 22 0), .ref (qs.getD 23 0), .ref (qs.getD 24 0), .ref (qs.getD 25 0), .ref (qs.getD 26 0), .int 0, .ref (qs.getD 27 0), .ref (qs.getD 28 0), .ref (qs.getD 29 0), .ref (qs.getD 30 0), .ref (qs.getD 31 0), .int 0, .int 0, .int 0, .int 0, .ref (qs.getD 32 0), .int 0])), ((qs.getD 0 0), .inl (g.2.1 0, (6, .inl (fun _ => 0)))), ((qs.getD 1 0), .inl (g.2.1 0, (6, .inl (fun _ => 0)))), ((qs.getD 2 0), .inl (g.2.1 0, (6, .inl (fun _ => 0)))), ((qs.getD 3 0), .inl (g.2.1 0, (6, .inl (fun _ => 0)))), ((qs.getD 4 0), .inl (g.2.1 0, (6, .inl (fun _ => 0)))), ((qs.getD 5 0), .inl (g.2.1 0, (6, .inl (fun _ => 0)))), ((qs.getD 6 0), .inl (g.2.1 0, (20, .inl (fun _ => 0)))), ((qs.getD 7 0), .inl (g.2.1 0, (20, .inl (fun _ => 0)))), ((qs.getD 8 0), .inl (g.2.1 0, (20, .inl (fun _ => 0)))), ((qs.getD 9 0), .inl (g.2.1 0, (20, .inl (fun _ => 0)))), ((qs.getD 10 0), .inl (g.2.1 0, (20, .inl (fun _ => 0)))), ((qs.getD 11 0), .inl (g.2.1 0, (20, .inl (fun _ => 0)))), ((qs.getD 12 0), .inl (g.2.1 0, (20, .inl (fun _ => 0)))), ((qs.getD 13 0), .inl (g.2.1 0, (20, .inl (fun _ => 0)))), ((qs.getD 14 0), .inl (g.2.1 1, (20, .inl (fun _ => 0)))), ((qs.getD 15 0), .inl (g.2.1 0, (120, .inl (fun _ => 0)))), ((qs.getD 16 0), .inl (g.2.1 0, (5000, .inl (fun _ => 0)))), ((qs.getD 17 0), .inl (g.2.1 0, (5000, .inl (fun _ => 0)))), ((qs.getD 18 0), .inl (g.2.1 0, (5000, .inl (fun _ => 0)))), ((qs.getD 19 0), .inl (g.2.1 0, (6, .inl (fun _ => 0)))), ((qs.getD 20 0), .inl (g.2.1 0, (36, .inl (fun _ => 0)))), ((qs.getD 21 0), .inl (g.2.1 0, (6, .inl (fun _ => 0)))), ((qs.getD 22 0), .inl (g.2.1 0, (36, .inl (fun _ => 0)))), ((qs.getD 23 0), .inl (g.2.1 0, (36, .inl (fun _ => 0)))), ((qs.getD 24 0), .inl (g.2.1 0, (36, .inl (fun _ => 0)))), ((qs.getD 25 0), .inl (g.2.1 0, (36, .inl (fun _ => 0)))), ((qs.getD 26 0), .inl (g.2.1 0, (36, .inl (fun _ => 0)))), ((qs.getD 27 0), .inl (g.2.1 0, (6, .inl (fun _ => 0)))), ((qs.getD 28 0), .inl (g.2.1 0, (6, .inl (fun _ => 0)))), ((qs.getD 29 0), .inl (g.2.1 0, (6, .inl (fun _ => 0)))), ((qs.getD 30 0), .inl (g.2.1 0, (6, .inl (fun _ => 0)))), ((qs.getD 31 0), .inl (g.2.1 0, (6, .inl (fun _ => 0)))), ((qs.getD 32 0), .inl (g.2.1 0, (3001, .inl (fun _ => 0))))] := by
  simp only [w_X8, List.cons_append, List.nil_append, List.set_cons_succ, List.set_cons_zero]
end
section
/-! the world grows: what is old stands, what is new is told -/
theorem zbq (a b : Nat) : Nat.beq a b = decide (a = b) := by
  rw [Bool.eq_iff_iff, decide_eq_true_iff]
  exact ⟨Nat.eq_of_beq_eq_true, fun h => h ▸ Nat.beq_refl a⟩
theorem va_at_q {D : va_G} {cl : List vw_C} {a n : Nat} {cA : ClassId} {f f' : Nat → Option Nat} {H : Heap} (h : va_at D cl (a, .inl (cA, n, .inr (.inr (.inr (.inr f))))) H) (hf : ∀ j, j < n → f' j = f j) : va_at D cl (a, .inl (cA, n, .inr (.inr (.inr (.inr f'))))) H := by
  show H[a]? = some (vp_cell cA (n, .inr (.inr (.inr (.inr f')))))
  have h1 : H[a]? = some (vp_cell cA (n, .inr (.inr (.inr (.inr f))))) := h
  rw [h1, vp_cell_q, vp_cell_q]
  have e : (fun j : Fin n => va_rf (f j.val)) = (fun j : Fin n => va_rf (f' j.val)) := funext fun j => by rw [hf j.val j.isLt]
  show some ({ cls := cA, slots := Array.ofFn (n := n) fun j => va_rf (f j.val), vm := .none } : Cell) = some { cls := cA, slots := Array.ofFn (n := n) fun j => va_rf (f' j.val), vm := .none }
  rw [e]
theorem zobj_ext {ad ad' : ZA} {S : ZS} {k i : Nat} (hw : zWF S) (hE : zExt S ad ad') (hl : zlv S k i) (hk : k < 9) : zobj ad' (S k i) k i = zobj ad (S k i) k i := by
  unfold zobj
  apply List.map_congr_left
  intro f _
  exact zc_ext hE (zfld_live hw hl hk)
theorem zcon_old {g : ZG} {ad ad' : ZA} {S S' : ZS} {H H4 : Heap} (hW : zW g ad S H) (hE : zExt S ad ad') {k i : Nat} (hk : k < 25) (hl : zlv S k i) (hs : S' k i = S k i) (h17 : k = 17 → nP S' = nP S) (h18 : k = 18 → nD S' = nD S) (h19 : k = 19 → nS S' = nS S) (h20 : k = 20 → nF S' = nF S) (hq : H4[ad k i]? = H[ad k i]?) : va_at g.1 vwCl (ad k i, zcon g.2.1 ad' S' k i) H4 := by
  have h := (hW.1 k i hk hl).kept hq
  by_cases h9 : k < 9
  · rw [zcon_ob h9] at h ⊢
    rw [hs, zobj_ext hW.2.2.2 hE hl h9]
    exact h
  · by_cases hr : zrow k = true
    · rw [zcon_row hr] at h ⊢
      rw [hs]
      exact h
    · have hc : k = 16 ∨ k = 17 ∨ k = 18 ∨ k = 19 ∨ k = 20 ∨ k = 21 ∨ k = 23 ∨ k = 24 := by
        simp only [zrow, Bool.or_eq_true, Bool.and_eq_true, Nat.ble_eq, Nat.beq_eq] at hr
        omega
      rcases hc with rfl | rfl | rfl | rfl | rfl | rfl | rfl | rfl
      · exact va_at_q (f := fun j => some (ad 2 j)) h (fun j hj => congrArg some (hE 2 j hj))
      · refine va_at_q (f := fun j => if j < nP S then some (ad 3 j) else none) h (fun j hj => ?_)
        show (if j < nP S' then some (ad' 3 j) else none) = _
        rw [h17 rfl]
        by_cases hc : j < nP S
        · rw [if_pos hc, if_pos hc, hE 3 j hc]
        · rw [if_neg hc, if_neg hc]
      · refine va_at_q (f := fun j => if j < nD S then some (ad 0 j) else none) h (fun j hj => ?_)
        show (if j < nD S' then some (ad' 0 j) else none) = _
        rw [h18 rfl]
        by_cases hc : j < nD S
        · rw [if_pos hc, if_pos hc, hE 0 j hc]
        · rw [if_neg hc, if_neg hc]
      · refine va_at_q (f := fun j => if j < nS S then some (ad 6 j) else none) h (fun j hj => ?_)
        show (if j < nS S' then some (ad' 6 j) else none) = _
        rw [h19 rfl]
        by_cases hc : j < nS S
        · rw [if_pos hc, if_pos hc, hE 6 j hc]
        · rw [if_neg hc, if_neg hc]
      · refine va_at_q (f := fun j => if j < nF S then some (ad 1 j) else none) h (fun j hj => ?_)
        show (if j < nF S' then some (ad' 1 j) else none) = _
        rw [h20 rfl]
        by_cases hc : j < nF S
        · rw [if_pos hc, if_pos hc, hE 1 j hc]
        · rw [if_neg hc, if_neg hc]
      · refine va_at_q (f := fun j => some (ad 5 (6 * i + j))) h (fun j hj => ?_)
        have hi : i < nS S := hl
        exact congrArg some (hE 5 (6 * i + j) (show 6 * i + j < 6 * nS S by omega))
      · show va_at g.1 vwCl (ad 23 i, .inl (g.2.1 1, (20, .inl (S' 23 i)))) H4
        rw [hs]
        exact h
      · show va_at g.1 vwCl (ad 24 i, .inl (g.2.1 8, (1, .inr (.inl (fun j => (S' 24 i j).toInt64))))) H4
        rw [hs]
        exact h
theorem zW.grown {g : ZG} {ad ad' : ZA} {S S' : ZS} {H H4 : Heap} (hW : zW g ad S H) (hb : g.2.2 ≤ H.size) (hE : zExt S ad ad') (hwf : zWF S') (hold : ∀ k i, k < 25 → zlv S k i → va_at g.1 vwCl (ad k i, zcon g.2.1 ad' S' k i) H4)
    (hnew : ∀ k i, k < 25 → zlv S' k i → ¬ zlv S k i → va_at g.1 vwCl (ad' k i, zcon g.2.1 ad' S' k i) H4 ∧ H.size ≤ ad' k i)
    (hinj : ∀ k i k' i', k < 25 → k' < 25 → zlv S' k i → ¬ zlv S k i → zlv S' k' i' → ¬ zlv S k' i' → ad' k i = ad' k' i' → k = k' ∧ i = i') : zW g ad' S' H4 := by
  have hlt : ∀ k i, k < 25 → zlv S k i → ad' k i < H.size := fun k i hk hl => by
    rw [hE k i hl]
    exact (hW.1 k i hk hl).lt
  refine ⟨fun k i hk hl => ?_, fun k i k' i' hk hk' hl hl' e => ?_, fun k i hk hl => ?_, hwf⟩
  · by_cases ho : zlv S k i
    · rw [hE k i ho]
      exact hold k i hk ho
    · exact (hnew k i hk hl ho).1
  · by_cases ho : zlv S k i
    · by_cases ho' : zlv S k' i'
      · rw [hE k i ho, hE k' i' ho'] at e
        exact hW.2.1 k i k' i' hk hk' ho ho' e
      · have h1 := hlt k i hk ho
        have h2 := (hnew k' i' hk' hl' ho').2
        omega
    · by_cases ho' : zlv S k' i'
      · have h1 := hlt k' i' hk' ho'
        have h2 := (hnew k i hk hl ho).2
        omega
      · exact hinj k i k' i' hk hk' hl ho hl' ho' e
  · by_cases ho : zlv S k i
    · rw [hE k i ho]
      exact hW.2.2.1 k i hk ho
    · exact Nat.le_trans hb (hnew k i hk hl ho).2
theorem zW.keptL {g : ZG} {ad : ZA} {S : ZS} {H H1 : Heap} (h : zW g ad S H) (hq : ∀ q : Nat, q < H.size → H1[q]? = H[q]?) : zW g ad S H1 := h.kept hq
theorem zgr7 {k n cf : Nat} {sub : Nat → Nat → Bool} {G : Nat → Int32} {S : ZS} (hk : k ≠ 7) (hs : ∀ i, sub 7 i = false) : zgrow k n cf sub G S 7 0 = fun f => if f = cf then nI (n + 1) else S 7 0 f := by
  funext f
  unfold zgrow
  rw [if_neg (fun h => hk h.1.symm), hs 0]
  by_cases hf : f = cf
  · rw [if_pos ⟨rfl, rfl, hf⟩, if_pos hf]
  · rw [if_neg (fun h => hf h.2.2), if_neg hf]
    rfl
theorem zgr_same {k n cf : Nat} {sub : Nat → Nat → Bool} {G : Nat → Int32} {S : ZS} {k' i : Nat} (h1 : ¬ (k' = k ∧ i = n)) (h7 : ¬ (k' = 7 ∧ i = 0)) (hs : sub k' i = false) : zgrow k n cf sub G S k' i = S k' i := by
  funext f
  unfold zgrow
  rw [if_neg h1, if_neg (fun h => h7 ⟨h.1, h.2.1⟩), hs]
  rfl
theorem zgr_new {k n cf : Nat} {sub : Nat → Nat → Bool} {G : Nat → Int32} {S : ZS} : zgrow k n cf sub G S k n = G := by
  funext f
  exact if_pos ⟨rfl, rfl⟩
theorem zgr_sub {k n cf : Nat} {sub : Nat → Nat → Bool} {G : Nat → Int32} {S : ZS} {k' i : Nat} (h1 : ¬ (k' = k ∧ i = n)) (h7 : k' ≠ 7) (hs : sub k' i = true) : zgrow k n cf sub G S k' i = fun _ => 0 := by
  funext f
  unfold zgrow
  rw [if_neg h1, if_neg (fun h => h7 h.1), if_pos hs]
section ZG9
variable {X : ZX} {cc : ByteArray} {own : String} {ret : Option FieldType} {F Lo cx sx : Nat}
theorem zCx.B (C : zCx X cc own ret F Lo cx sx) : zB X.p X.s X.m X.a X.c cc own X.nL X.g (zAA X.g) := ⟨C.hx, C.hb, C.hml, C.hw, C.hown, C.hE, fun _ h => Nat.le_trans C.hE.1.1 h, fun _ h => h⟩
/-- a field of a thing is read; the stack below is any -/
theorem zr_gf {pc idx k f N i : Nat} {Cn ref : String} {T : u_T} {ty : Nat → FieldType} {S : ZS} {ad : ZA} {H : Heap} {locs : List Loc} {ls : Array Slot} {rest : List Value} {ce sl : Nat} {v : Value} (C : zCx X cc own ret F Lo cx sx) (hK : zKl k Cn T N ty) (hf : f < N) (hlink : Cond.fieldLink own idx ref (T f).2.1 (T f).2.2.1 ∈ wG) (href : (T f).1 = ref) (hat : va_at X.g.1 vwCl (ad k i, .inr (k, zobj ad (S k i) k i)) H) (hv : zc ad (zfld S k i f) = v) (hd : decode cc pc = .ok (.getfield idx, 3)) (hk : W X.p X.l X.e X.R X.s X.m X.a X.b X.meth X.c H locs ce sl X.Q (F0 X.m (pc + 3) ls (v :: rest))) : W X.p X.l X.e X.R X.s X.m X.a X.b X.meth X.c H locs ce sl X.Q (F0 X.m pc ls (.ref (ad k i) :: rest)) := by
  obtain ⟨h1, h2, h3, h4, h5, h6⟩ := hK
  subst hv
  exact va_get (D := X.g.1) (ci := k) (v := zc ad (zfld S k i f)) (C := Cn) (T := T) (N := N) C.hx C.hb C.hw h2 C.hown C.hE.2.1 (zP1 hat) 0 rfl h1 f hf (C.hw _ hlink) (fun x hx => by rw [← href]; exact hx) (zobj_get ad (S k i) k i f (by rw [← h5]; exact hf)) hd hk
end ZG9
end
section
/-! person, depot, shop, farm: the thing is made, kept, counted -/
theorem zlv_new {S S' : ZS} {k i : Nat} (hk : k < 25) (hl : zlv S' k i) (hno : ¬ zlv S k i) : ((k = 0 ∨ k = 9) ∧ nD S ≤ i ∧ i < nD S') ∨ (k = 1 ∧ nF S ≤ i ∧ i < nF S') ∨ ((k = 3 ∨ k = 10) ∧ nP S ≤ i ∧ i < nP S') ∨ ((k = 6 ∨ k = 21) ∧ nS S ≤ i ∧ i < nS S') ∨ (k = 5 ∧ 6 * nS S ≤ i ∧ i < 6 * nS S') := by
  rcases (show k = 0 ∨ k = 1 ∨ k = 2 ∨ k = 3 ∨ k = 4 ∨ k = 5 ∨ k = 6 ∨ k = 7 ∨ k = 8 ∨ k = 9 ∨ k = 10 ∨ k = 11 ∨ k = 12 ∨ k = 13 ∨ k = 14 ∨ k = 15 ∨ k = 16 ∨ k = 17 ∨ k = 18 ∨ k = 19 ∨ k = 20 ∨ k = 21 ∨ k = 22 ∨ k = 23 ∨ k = 24 by omega) with rfl | rfl | rfl | rfl | rfl | rfl | rfl | rfl | rfl | rfl | rfl | rfl | rfl | rfl | rfl | rfl | rfl | rfl | rfl | rfl | rfl | rfl | rfl | rfl | rfl <;> simp only [zlv] at hl hno <;> first | exact absurd hl hno | omega
theorem zlv_newP {S S' : ZS} {k i : Nat} (hk : k < 25) (hl : zlv S' k i) (hno : ¬ zlv S k i) (c1 : nD S' = nD S) (c2 : nP S' = nP S + 1) (c3 : nS S' = nS S) (c4 : nF S' = nF S) : (k = 3 ∧ i = nP S) ∨ (k = 10 ∧ i = nP S) := by
  have := zlv_new hk hl hno
  omega
theorem zlv_newD {S S' : ZS} {k i : Nat} (hk : k < 25) (hl : zlv S' k i) (hno : ¬ zlv S k i) (c1 : nD S' = nD S + 1) (c2 : nP S' = nP S) (c3 : nS S' = nS S) (c4 : nF S' = nF S) : (k = 0 ∧ i = nD S) ∨ (k = 9 ∧ i = nD S) := by
  have := zlv_new hk hl hno
  omega
theorem zlv_newF {S S' : ZS} {k i : Nat} (hk : k < 25) (hl : zlv S' k i) (hno : ¬ zlv S k i) (c1 : nD S' = nD S) (c2 : nP S' = nP S) (c3 : nS S' = nS S) (c4 : nF S' = nF S + 1) : k = 1 ∧ i = nF S := by
  have := zlv_new hk hl hno
  omega
theorem zlv_newS {S S' : ZS} {k i : Nat} (hk : k < 25) (hl : zlv S' k i) (hno : ¬ zlv S k i) (c1 : nD S' = nD S) (c2 : nP S' = nP S) (c3 : nS S' = nS S + 1) (c4 : nF S' = nF S) : (k = 6 ∧ i = nS S) ∨ (k = 21 ∧ i = nS S) ∨ (k = 5 ∧ i = 6 * nS S + 0) ∨ (k = 5 ∧ i = 6 * nS S + 1) ∨ (k = 5 ∧ i = 6 * nS S + 2) ∨ (k = 5 ∧ i = 6 * nS S + 3) ∨ (k = 5 ∧ i = 6 * nS S + 4) ∨ (k = 5 ∧ i = 6 * nS S + 5) := by
  have h := zlv_new hk hl hno
  have h2 : ((k = 6 ∨ k = 21) ∧ i = nS S) ∨ (k = 5 ∧ 6 * nS S ≤ i ∧ i < 6 * nS S + 6) := by omega
  rcases h2 with ⟨rfl | rfl, h3⟩ | ⟨rfl, h3, h4⟩
  · exact Or.inl ⟨rfl, h3⟩
  · exact Or.inr (Or.inl ⟨rfl, h3⟩)
  · have h5 : i = 6 * nS S + 0 ∨ i = 6 * nS S + 1 ∨ i = 6 * nS S + 2 ∨ i = 6 * nS S + 3 ∨ i = 6 * nS S + 4 ∨ i = 6 * nS S + 5 := by omega
    rcases h5 with h5 | h5 | h5 | h5 | h5 | h5
    · exact Or.inr (Or.inr (Or.inl ⟨rfl, h5⟩))
    · exact Or.inr (Or.inr (Or.inr (Or.inl ⟨rfl, h5⟩)))
    · exact Or.inr (Or.inr (Or.inr (Or.inr (Or.inl ⟨rfl, h5⟩))))
    · exact Or.inr (Or.inr (Or.inr (Or.inr (Or.inr (Or.inl ⟨rfl, h5⟩)))))
    · exact Or.inr (Or.inr (Or.inr (Or.inr (Or.inr (Or.inr (Or.inl ⟨rfl, h5⟩))))))
    · exact Or.inr (Or.inr (Or.inr (Or.inr (Or.inr (Or.inr (Or.inr ⟨rfl, h5⟩))))))
theorem zble_t {a b : Nat} (h : a ≤ b) : Nat.ble a b = true := by
  rw [Nat.ble_eq]
  exact h
theorem zr_ald {p : Program} {l : Launch} {e : Env} {R : Room} {s : State} {m : MethodId} {args : Array Value} {below : List Frame} {meth : Method} {c : Code} {H : Heap} {locs : List Loc} {cells slots : Nat} {Q : State → Prop} {cc : ByteArray} {pc : Nat} {ls : Array Slot} {rest : List Value} (hx : p.tables.exec = Jvm.exec) (hb : c.code = cc) {k : Fin 4} {i : Nat} {x : Option Nat} (hdg : decode cc pc = .ok (.aload_n k, 1)) (hi : (k : Nat) = i) (hl : ls[i]? = some (.val (va_rf x))) (kk : W p l e R s m args below meth c H locs cells slots Q (F0 m (pc + 1) ls (va_rf x :: rest))) : W p l e R s m args below meth c H locs cells slots Q (F0 m pc ls rest) := by
  cases x with
  | none => exact lv_aload_nN hx hb hdg hi hl kk
  | some a => exact lv_aload_n hx hb hdg hi hl kk
theorem zu_53 : Cond.initialized RX3 ∈ wG := zg 53 (by decide +kernel) (by decide +kernel)
theorem zu_55 : Cond.initialized RX0 ∈ wG := zg 55 (by decide +kernel) (by decide +kernel)
theorem zu_56 : Cond.initialized RX6 ∈ wG := zg 56 (by decide +kernel) (by decide +kernel)
theorem zu_58 : Cond.initialized RX1 ∈ wG := zg 58 (by decide +kernel) (by decide +kernel)
theorem zu_358 : Cond.instantiable RX3 11 ∈ wG := zg 358 (by decide +kernel) (by decide +kernel)
theorem zu_359 : Cond.methodLink RX7 127 yX3_init ∈ wG := zg 359 (by decide +kernel) (by decide +kernel)
theorem zu_360 : Cond.instanceMethod yX3_init ∈ wG := zg 360 (by decide +kernel) (by decide +kernel)
theorem zu_361 : Cond.code yX3_init cX3_init 4 none ∈ wG := zg 361 (by decide +kernel) (by decide +kernel)
theorem zu_517 : Cond.instantiable RX0 3 ∈ wG := zg 517 (by decide +kernel) (by decide +kernel)
theorem zu_518 : Cond.methodLink RX7 210 yX0_init ∈ wG := zg 518 (by decide +kernel) (by decide +kernel)
theorem zu_519 : Cond.instanceMethod yX0_init ∈ wG := zg 519 (by decide +kernel) (by decide +kernel)
theorem zu_520 : Cond.code yX0_init cX0_init 3 none ∈ wG := zg 520 (by decide +kernel) (by decide +kernel)
theorem zu_542 : Cond.instantiable RX6 3 ∈ wG := zg 542 (by decide +kernel) (by decide +kernel)
theorem zu_543 : Cond.methodLink RX7 213 yX6_init ∈ wG := zg 543 (by decide +kernel) (by decide +kernel)
theorem zu_544 : Cond.instanceMethod yX6_init ∈ wG := zg 544 (by decide +kernel) (by decide +kernel)
theorem zu_545 : Cond.code yX6_init cX6_init 4 none ∈ wG := zg 545 (by decide +kernel) (by decide +kernel)
theorem zu_733 : Cond.instantiable RX1 5 ∈ wG := zg 733 (by decide +kernel) (by decide +kernel)
theorem zu_734 : Cond.methodLink RX7 285 yX1_init ∈ wG := zg 734 (by decide +kernel) (by decide +kernel)
theorem zu_735 : Cond.instanceMethod yX1_init ∈ wG := zg 735 (by decide +kernel) (by decide +kernel)
theorem zu_736 : Cond.code yX1_init cX1_init 4 none ∈ wG := zg 736 (by decide +kernel) (by decide +kernel)
end
section
theorem eX7_person_21 : decode cX7_person 21 = .ok (.aload_n 0, 1) := by decide +kernel
theorem eX7_person_22 : decode cX7_person 22 = .ok (.getfield 17, 3) := by decide +kernel
theorem eX7_person_25 : decode cX7_person 25 = .ok (.aload_n 0, 1) := by decide +kernel
theorem eX7_person_26 : decode cX7_person 26 = .ok (.getfield 50, 3) := by decide +kernel
theorem eX7_person_29 : decode cX7_person 29 = .ok (.new 15, 3) := by decide +kernel
theorem eX7_person_32 : decode cX7_person 32 = .ok (.dup, 1) := by decide +kernel
theorem eX7_person_33 : decode cX7_person 33 = .ok (.aload_n 0, 1) := by decide +kernel
theorem eX7_person_34 : decode cX7_person 34 = .ok (.getfield 50, 3) := by decide +kernel
theorem eX7_person_37 : decode cX7_person 37 = .ok (.iload_n 1, 1) := by decide +kernel
theorem eX7_person_38 : decode cX7_person 38 = .ok (.aload_n 3, 1) := by decide +kernel
theorem eX7_person_39 : decode cX7_person 39 = .ok (.invokespecial 127, 3) := by decide +kernel
theorem eX7_person_42 : decode cX7_person 42 = .ok (.aastore, 1) := by decide +kernel
theorem eX7_person_43 : decode cX7_person 43 = .ok (.aload_n 0, 1) := by decide +kernel
theorem eX7_person_44 : decode cX7_person 44 = .ok (.dup, 1) := by decide +kernel
theorem eX7_person_45 : decode cX7_person 45 = .ok (.getfield 50, 3) := by decide +kernel
theorem eX7_person_48 : decode cX7_person 48 = .ok (.iconst 1, 1) := by decide +kernel
theorem eX7_person_49 : decode cX7_person 49 = .ok (.iadd, 1) := by decide +kernel
theorem eX7_person_50 : decode cX7_person 50 = .ok (.putfield 50, 3) := by decide +kernel
set_option maxHeartbeats 4000000 in
set_option maxRecDepth 20000 in
theorem zgo_P {X : ZX} {kk : ZP} (C : zCx X cX7_person RX7 (some .int) 7 112 3 23) (hk : ZOK (zXc X (X.ce + 2) (X.sl + 17)) 53 kk) {L : List (Option ZV)} {S : ZS} {ad : ZA} {H : Heap} {locs : List Loc} {ls : Array Slot} {kd : Int32} {j : Nat} (hP : kk L [] (zgrP S kd j) X.K) (hin : vp_in (S 7 0 7) 20) (g0 : ls[0]? = some (.val (.ref (ad 7 0)))) (g1 : ls[1]? = some (.val (.int kd))) (g3 : ls[3]? = some (.val (.ref (ad 6 j)))) (hj : j < nS S) (hW : zW X.g ad S H) (hM : zMono X.S0 S) (hE : zExt X.S0 X.ad ad) (hS : va_S (zAA X.g) X.s.heap H locs) (hL : zLR ad S ls X.nL L) : zGo X H locs (F0 X.m 21 ls []) := by
  have hce := C.hce
  have hsl := C.hsl
  have hF := C.hF
  have hLo := C.hLo
  obtain ⟨hnv, hnl⟩ : S 7 0 7 = nI (nP S) ∧ nP S < 20 := by
    obtain ⟨n, h1, h2⟩ := vp_in_of hin (by decide)
    have h3 : nP S = n := by
      show (S 7 0 7).toNatClampNeg = n
      rw [h2]
      exact nI_clamp (by omega)
    rw [h3]
    exact ⟨h2, h1⟩
  have l7 : zlv S 7 0 := ⟨by decide, rfl⟩
  have lA : zlv S 17 0 := ⟨by decide, rfl⟩
  have hb : X.g.2.2 ≤ H.size := Nat.le_trans C.hE.1.1 hS.1
  have h7 := hW.ob l7 (by decide)
  refine lv_aload_n C.hx C.hb eX7_person_21 rfl g0 ?_
  refine zr_gf (v := .ref (ad 17 0)) C zK7 (f := 1) (by decide) zv_127 rfl h7 rfl eX7_person_22 ?_
  refine lv_aload_n C.hx C.hb eX7_person_25 rfl g0 ?_
  refine zr_gf (v := .int (S 7 0 7)) C zK7 (f := 7) (by decide) zv_133 rfl h7 rfl eX7_person_26 ?_
  refine zr_new (fs := [.int 0, .int 0, .null, .null, .int 0, .int 0, .int 0, .int 0, .int 0, .int 0, .null]) C.hx C.hb C.hw C.hown C.hE zK3 zv_69 zu_358 zu_53 (fun j hj => by rcases (show j = 0 ∨ j = 1 ∨ j = 2 ∨ j = 3 ∨ j = 4 ∨ j = 5 ∨ j = 6 ∨ j = 7 ∨ j = 8 ∨ j = 9 ∨ j = 10 by omega) with rfl | rfl | rfl | rfl | rfl | rfl | rfl | rfl | rfl | rfl | rfl <;> rfl) (by omega) (by omega) eX7_person_29 (fun H1 hat z1 o1 => ?_)
  have hW1 := hW.kept o1
  have h71 := hW1.ob l7 (by decide)
  have hS1 : va_S (zAA X.g) X.s.heap H1 locs := ⟨Nat.le_trans hS.1 (by omega), fun q h1 h2 => (o1 q (Nat.lt_of_lt_of_le h1 hS.1)).trans (hS.2.1 q h1 h2), hS.2.2⟩
  refine lv_dup C.hx C.hb eX7_person_32 rfl ?_
  refine lv_aload_n C.hx C.hb eX7_person_33 rfl g0 ?_
  refine zr_gf (v := .int (S 7 0 7)) C zK7 (f := 7) (by decide) zv_133 rfl h71 rfl eX7_person_34 ?_
  refine lv_iload_n C.hx C.hb eX7_person_37 rfl g1 ?_
  refine lv_aload_n C.hx C.hb eX7_person_38 rfl g3 ?_
  refine zc_run (n := 3) (As := [.int (S 7 0 7), .int kd, .ref (ad 6 j)]) (rest := [.ref H.size, .int (S 7 0 7), .ref (ad 17 0)]) C.B (zmk_X3 X.l X.g (S 7 0 7) kd (ad 6 j)) (Or.inl zu_359) zu_361 zu_53 zu_360 rfl ⟨by decide +kernel, by decide +kernel, by decide +kernel⟩ rfl ⟨rfl, rfl⟩ ⟨by show 1 + 1 ≤ _; omega, by show 8 + (4 + 11) + 12 ≤ _; omega⟩ (by omega) (by omega) hat hS1 hb hL.1 (Nat.le_of_ble_eq_true rfl) eX7_person_39 (fun qs H2 locs2 hP2 hD2 z2 o2 hS2 => ?_)
  have o12 : ∀ q, q < H.size → H2[q]? = H[q]? := fun q hq => (o2 q (by omega) (by omega)).trans (o1 q hq)
  have hW2 := hW.kept o12
  refine zr_ast (t0 := 5) (n := 20) (ci := 3) (r := (RX3, TX3, 11)) (f := fun j => if j < nP S then some (ad 3 j) else none) C.hx C.hb C.hE (hW2.at (by decide) lA) rfl (hP2 0 _ rfl) rfl hin eX7_person_42 (fun H3 j3 hat3 z3 o3 => ?_)
  have hne : ad 7 0 ≠ ad 17 0 := fun e => by have := (hW.2.1 7 0 17 0 (by decide) (by decide) l7 lA e).1; omega
  have h73 : va_at X.g.1 vwCl (ad 7 0, .inr (7, zobj ad (S 7 0) 7 0)) H3 := (hW2.ob l7 (by decide)).kept (o3 _ hne)
  refine lv_aload_n C.hx C.hb eX7_person_43 rfl g0 ?_
  refine lv_dup C.hx C.hb eX7_person_44 rfl ?_
  refine zr_gf (v := .int (S 7 0 7)) C zK7 (f := 7) (by decide) zv_133 rfl h73 rfl eX7_person_45 ?_
  refine lv_iconst (v := 1) C.hx C.hb eX7_person_48 (by decide) ?_
  refine lv_iadd C.hx C.hb eX7_person_49 ?_
  have hv1 : S 7 0 7 + 1 = nI (nP S + 1) := by rw [hnv]; exact nI_add (nP S) 1
  rw [hv1]
  refine zput_raw (X := zXc X (X.ce + 1 + 1) (X.sl + 11 + 6)) (D := X.g.1) (ci := 7) (ty := .int) (C := RX7) (T := TX7) (N := 19) C.hx C.hb C.hw zK7.2.1 tyX7 tyX7_ok nmX7 C.hown C.hE.2.1 h73 rfl 7 (by decide) (C.hw _ zv_133) (fun x hx => hx) rfl (tyX7_ok 7 (by decide)) rfl rfl (by rw [zobj_len]; decide) eX7_person_50 (fun H4 j4 hat4 z4 o4 => ?_)
  have hold4 : ∀ q, q < H.size → q ≠ ad 17 0 → q ≠ ad 7 0 → H4[q]? = H[q]? := fun q h1 h2 h3 => (o4 q h3).trans ((o3 q h2).trans (o12 q h1))
  have hlt7 := (hW.1 7 0 (by decide) l7).lt
  have hltA := (hW.1 17 0 (by decide) lA).lt
  have hn4 : ∀ q, H.size ≤ q → H4[q]? = H2[q]? := fun q hq => (o4 q (fun e => by rw [e] at hq; exact absurd hlt7 (Nat.not_lt.mpr hq))).trans (o3 q (fun e => by rw [e] at hq; exact absurd hltA (Nat.not_lt.mpr hq)))
  have hge : ∀ q, va_A [(H.size, .inr (3, [.int 0, .int 0, .null, .null, .int 0, .int 0, .int 0, .int 0, .int 0, .int 0, .null]))] H1.size q → H.size ≤ q := fun q h => by
    rcases h with ⟨k9, e9, h⟩ | h
    · have h1 : k9 < 1 := (List.getElem?_eq_some_iff.mp h).1
      cases (show k9 = 0 by omega)
      cases h
      exact Nat.le_refl _
    · omega
  obtain ⟨ad', had⟩ : ∃ ad' : ZA, ad' = fun k i => if k = 3 ∧ i = nP S then H.size else if k = 10 ∧ i = nP S then qs.getD 0 0 else ad k i := ⟨_, rfl⟩
  have a_o : ad' 3 (nP S) = H.size := by rw [had]; exact if_pos ⟨rfl, rfl⟩
  have a_q : ad' 10 (nP S) = qs.getD 0 0 := by rw [had]; exact (if_neg (by omega)).trans (if_pos ⟨rfl, rfl⟩)
  have hE' : zExt S ad ad' := fun k i hl => by
    rw [had]
    have h1 : ¬ (k = 3 ∧ i = nP S) := by rintro ⟨rfl, rfl⟩; exact absurd (show nP S < nP S from hl) (Nat.lt_irrefl _)
    have h2 : ¬ (k = 10 ∧ i = nP S) := by rintro ⟨rfl, rfl⟩; exact absurd (show nP S < nP S from hl) (Nat.lt_irrefl _)
    exact (if_neg h1).trans (if_neg h2)
  have hS7 : zgrP S kd j 7 0 = fun f => if f = 7 then nI (nP S + 1) else S 7 0 f := zgr7 (by decide) (fun i => rfl)
  have c_nD : nD (zgrP S kd j) = nD S := by
    show (zgrP S kd j 7 0 8).toNatClampNeg = _
    rw [hS7]
    rfl
  have c_nP : nP (zgrP S kd j) = nP S + 1 := by
    show (zgrP S kd j 7 0 7).toNatClampNeg = _
    rw [hS7]
    exact nI_clamp (by omega)
  have c_nS : nS (zgrP S kd j) = nS S := by
    show (zgrP S kd j 7 0 9).toNatClampNeg = _
    rw [hS7]
    rfl
  have c_nF : nF (zgrP S kd j) = nF S := by
    show (zgrP S kd j 7 0 10).toNatClampNeg = _
    rw [hS7]
    rfl
  have hs' : ∀ k i, zlv S k i → k ≠ 7 → zgrP S kd j k i = S k i := fun k i hl h7 => zgr_same (by rintro ⟨rfl, rfl⟩; exact absurd (show nP S < nP S from hl) (Nat.lt_irrefl _)) (fun h => h7 h.1) (by
    rw [Bool.eq_false_iff]
    intro h
    obtain ⟨h1, h2⟩ := (Bool.and_eq_true _ _).mp h
    cases Nat.eq_of_beq_eq_true h1
    cases Nat.eq_of_beq_eq_true h2
    exact absurd (show nP S < nP S from hl) (Nat.lt_irrefl _))
  have hwf : zWF (zgrP S kd j) := by
    obtain ⟨w1, w2, w3, w4⟩ := hW.2.2.2
    refine ⟨fun i hi => ?_, fun i hi => ?_, fun i hi => ?_, fun i hi => ?_⟩
    · rw [c_nD] at hi; rw [hs' 0 i hi (by decide)]; exact w1 i hi
    · rw [c_nF] at hi; rw [hs' 1 i hi (by decide), c_nD]; exact w2 i hi
    · rw [c_nP] at hi
      rw [c_nS]
      by_cases e : i = nP S
      · subst e
        rw [show zgrP S kd j 3 (nP S) = zFP (nP S) kd j from zgr_new]
        show (nI j).toNatClampNeg < nS S ∧ (nI j).toNatClampNeg < nS S
        rw [nI_clamp (Nat.lt_trans hj (zn_lt _))]
        exact ⟨hj, hj⟩
      · have hi2 : i < nP S := by omega
        rw [hs' 3 i hi2 (by decide)]
        exact w3 i hi2
    · rw [c_nS] at hi; rw [hs' 6 i hi (by decide), c_nD]; exact w4 i hi
  have hM' : zMono S (zgrP S kd j) := ⟨by omega, by omega, by omega, by omega⟩
  have hW' : zW X.g ad' (zgrP S kd j) H4 := by
    refine hW.grown hb hE' hwf (fun k i hk hl => ?_) (fun k i hk hl hno => ?_) (fun k i k' i' hk hk' hl hno hl' hno' e => ?_)
    · by_cases k7 : k = 7
      · subst k7
        have hi : i = 0 := hl.2
        subst hi
        rw [zcon_ob (by decide), hS7]
        have e7 : zobj ad' (fun f => if f = 7 then nI (nP S + 1) else S 7 0 f) 7 0 = (zobj ad (S 7 0) 7 0).set 7 (.int (nI (nP S + 1))) := by
          rw [zobj_set ad' (S 7 0) 7 0 7 (nI (nP S + 1)) (by decide) (.inl (nI (nP S + 1))) rfl, zobj_ext hW.2.2.2 hE' l7 (by decide)]
          rfl
        rw [e7]
        exact hat4
      · by_cases kA : k = 17
        · subst kA
          have hi : i = 0 := hl.2
          subst hi
          refine va_at_q (f := va_up (fun j => if j < nP S then some (ad 3 j) else none) (S 7 0 7).toNatClampNeg (some H.size)) (hat3.kept (o4 _ (Ne.symm hne))) (fun t ht => ?_)
          show (if t < nP (zgrP S kd j) then some (ad' 3 t) else none) = if t = nP S then some H.size else if t < nP S then some (ad 3 t) else none
          rw [c_nP]
          by_cases e : t = nP S
          · rw [if_pos e, if_pos (by omega), e, a_o]
          · by_cases e2 : t < nP S
            · rw [if_neg e, if_pos e2, if_pos (by omega), hE' 3 t e2]
            · rw [if_neg e, if_neg e2, if_neg (by omega)]
        · refine zcon_old hW hE' hk hl (hs' k i hl k7) (fun e => absurd e kA) (fun _ => c_nD) (fun _ => c_nS) (fun _ => c_nF) (hold4 _ (hW.1 k i hk hl).lt (fun e => kA (hW.2.1 k i 17 0 hk (by decide) hl lA e).1) (fun e => k7 (hW.2.1 k i 7 0 hk (by decide) hl l7 e).1))
    · have hc : (k = 3 ∧ i = nP S) ∨ (k = 10 ∧ i = nP S) := zlv_newP hk hl hno c_nD c_nP c_nS c_nF
      rcases hc with ⟨rfl, rfl⟩ | ⟨rfl, rfl⟩
      · rw [a_o]
        refine ⟨?_, Nat.le_refl _⟩
        rw [zcon_ob (by decide), show zgrP S kd j 3 (nP S) = zFP (nP S) kd j from zgr_new]
        have e : zobj ad' (zFP (nP S) kd j) 3 (nP S) = [.int (nI (nP S)), .int kd, .ref (ad' 6 (nI j).toNatClampNeg), .ref (ad' 6 (nI j).toNatClampNeg), .int 100, .int (-1), .int 0, .int 0, .int 0, .int 0, .ref (ad' 10 (nP S))] := rfl
        rw [e, nI_clamp (Nat.lt_trans hj (zn_lt _)), hE' 6 j hj, a_q, ← hnv]
        exact (hP2 0 _ rfl).kept (hn4 _ (Nat.le_refl _))
      · have hq := hge _ (hD2.2 1 _ rfl)
        rw [a_q]
        refine ⟨?_, hq⟩
        rw [zcon_row rfl, show zgrP S kd j 10 (nP S) = fun _ => 0 from zgr_sub (by omega) (by decide) (by simp [zsubP, zbq])]
        exact (hP2 1 _ rfl).kept (hn4 _ hq)
    · have hc : (k = 3 ∧ i = nP S) ∨ (k = 10 ∧ i = nP S) := zlv_newP hk hl hno c_nD c_nP c_nS c_nF
      have hc' : (k' = 3 ∧ i' = nP S) ∨ (k' = 10 ∧ i' = nP S) := zlv_newP hk' hl' hno' c_nD c_nP c_nS c_nF
      rcases hc with ⟨rfl, rfl⟩ | ⟨rfl, rfl⟩ <;> rcases hc' with ⟨rfl, rfl⟩ | ⟨rfl, rfl⟩
      · exact ⟨rfl, rfl⟩
      · rw [a_o, a_q] at e
        exact absurd (hD2.1 0 1 _ _ rfl rfl e) (by decide)
      · rw [a_o, a_q] at e
        exact absurd (hD2.1 1 0 _ _ rfl rfl e) (by decide)
      · exact ⟨rfl, rfl⟩
  exact hk L [] (zgrP S kd j) ad' H4 _ ls hP hW' (hM.tr hM') (hE.tr hM hE') ((hS2.put z3 o3 (hW.2.2.1 17 0 (by decide) lA)).put z4 o4 (hW.2.2.1 7 0 (by decide) l7)) (hL.ext hM' hE') trivial
end
section
theorem eX7_depot_29 : decode cX7_depot 29 = .ok (.aload_n 0, 1) := by decide +kernel
theorem eX7_depot_30 : decode cX7_depot 30 = .ok (.getfield 23, 3) := by decide +kernel
theorem eX7_depot_33 : decode cX7_depot 33 = .ok (.aload_n 0, 1) := by decide +kernel
theorem eX7_depot_34 : decode cX7_depot 34 = .ok (.getfield 54, 3) := by decide +kernel
theorem eX7_depot_37 : decode cX7_depot 37 = .ok (.new 21, 3) := by decide +kernel
theorem eX7_depot_40 : decode cX7_depot 40 = .ok (.dup, 1) := by decide +kernel
theorem eX7_depot_41 : decode cX7_depot 41 = .ok (.aload_n 0, 1) := by decide +kernel
theorem eX7_depot_42 : decode cX7_depot 42 = .ok (.getfield 54, 3) := by decide +kernel
theorem eX7_depot_45 : decode cX7_depot 45 = .ok (.aload_n 2, 1) := by decide +kernel
theorem eX7_depot_46 : decode cX7_depot 46 = .ok (.invokespecial 210, 3) := by decide +kernel
theorem eX7_depot_49 : decode cX7_depot 49 = .ok (.aastore, 1) := by decide +kernel
theorem eX7_depot_50 : decode cX7_depot 50 = .ok (.aload_n 0, 1) := by decide +kernel
theorem eX7_depot_51 : decode cX7_depot 51 = .ok (.dup, 1) := by decide +kernel
theorem eX7_depot_52 : decode cX7_depot 52 = .ok (.getfield 54, 3) := by decide +kernel
theorem eX7_depot_55 : decode cX7_depot 55 = .ok (.iconst 1, 1) := by decide +kernel
theorem eX7_depot_56 : decode cX7_depot 56 = .ok (.iadd, 1) := by decide +kernel
theorem eX7_depot_57 : decode cX7_depot 57 = .ok (.putfield 54, 3) := by decide +kernel
set_option maxHeartbeats 4000000 in
set_option maxRecDepth 20000 in
theorem zgo_D {X : ZX} {kk : ZP} (C : zCx X cX7_depot RX7 (some .int) 7 111 3 15) (hk : ZOK (zXc X (X.ce + 2) (X.sl + 9)) 60 kk) {L : List (Option ZV)} {S : ZS} {ad : ZA} {H : Heap} {locs : List Loc} {ls : Array Slot} {x : Option Nat} {a : Int32} (hP : kk L [] (zgrD S a) X.K) (hin : vp_in (S 7 0 8) 6) (g0 : ls[0]? = some (.val (.ref (ad 7 0)))) (g2 : ls[2]? = some (.val (va_rf (x.map (ad 0))))) (hx1 : ∀ j, x = some j → j < nD S ∧ a = nI j) (hx2 : x = none → a = -1) (hW : zW X.g ad S H) (hM : zMono X.S0 S) (hE : zExt X.S0 X.ad ad) (hS : va_S (zAA X.g) X.s.heap H locs) (hL : zLR ad S ls X.nL L) : zGo X H locs (F0 X.m 29 ls []) := by
  have hce := C.hce
  have hsl := C.hsl
  have hF := C.hF
  have hLo := C.hLo
  obtain ⟨hnv, hnl⟩ : S 7 0 8 = nI (nD S) ∧ nD S < 6 := by
    obtain ⟨n, h1, h2⟩ := vp_in_of hin (by decide)
    have h3 : nD S = n := by
      show (S 7 0 8).toNatClampNeg = n
      rw [h2]
      exact nI_clamp (by omega)
    rw [h3]
    exact ⟨h2, h1⟩
  have l7 : zlv S 7 0 := ⟨by decide, rfl⟩
  have lA : zlv S 18 0 := ⟨by decide, rfl⟩
  have hb : X.g.2.2 ≤ H.size := Nat.le_trans C.hE.1.1 hS.1
  have h7 := hW.ob l7 (by decide)
  refine lv_aload_n C.hx C.hb eX7_depot_29 rfl g0 ?_
  refine zr_gf (v := .ref (ad 18 0)) C zK7 (f := 2) (by decide) zv_128 rfl h7 rfl eX7_depot_30 ?_
  refine lv_aload_n C.hx C.hb eX7_depot_33 rfl g0 ?_
  refine zr_gf (v := .int (S 7 0 8)) C zK7 (f := 8) (by decide) zv_134 rfl h7 rfl eX7_depot_34 ?_
  refine zr_new (fs := [.int 0, .null, .null]) C.hx C.hb C.hw C.hown C.hE zK0 zv_71 zu_517 zu_55 (fun j hj => by rcases (show j = 0 ∨ j = 1 ∨ j = 2 by omega) with rfl | rfl | rfl <;> rfl) (by omega) (by omega) eX7_depot_37 (fun H1 hat z1 o1 => ?_)
  have hW1 := hW.kept o1
  have h71 := hW1.ob l7 (by decide)
  have hS1 : va_S (zAA X.g) X.s.heap H1 locs := ⟨Nat.le_trans hS.1 (by omega), fun q h1 h2 => (o1 q (Nat.lt_of_lt_of_le h1 hS.1)).trans (hS.2.1 q h1 h2), hS.2.2⟩
  refine lv_dup C.hx C.hb eX7_depot_40 rfl ?_
  refine lv_aload_n C.hx C.hb eX7_depot_41 rfl g0 ?_
  refine zr_gf (v := .int (S 7 0 8)) C zK7 (f := 8) (by decide) zv_134 rfl h71 rfl eX7_depot_42 ?_
  refine zr_ald C.hx C.hb eX7_depot_45 rfl g2 ?_
  refine zc_run (n := 2) (As := [.int (S 7 0 8), va_rf (x.map (ad 0))]) (rest := [.ref H.size, .int (S 7 0 8), .ref (ad 18 0)]) C.B (zmk_X0 X.l X.g (S 7 0 8) (x.map (ad 0))) (Or.inl zu_518) zu_520 zu_55 zu_519 rfl ⟨by decide +kernel, by decide +kernel, by decide +kernel⟩ rfl ⟨rfl, rfl⟩ ⟨by show 1 + 1 ≤ _; omega, by show 8 + (3 + 11) + 12 ≤ _; omega⟩ (by omega) (by omega) hat hS1 hb hL.1 (Nat.le_of_ble_eq_true rfl) eX7_depot_46 (fun qs H2 locs2 hP2 hD2 z2 o2 hS2 => ?_)
  have o12 : ∀ q, q < H.size → H2[q]? = H[q]? := fun q hq => (o2 q (by omega) (by omega)).trans (o1 q hq)
  have hW2 := hW.kept o12
  refine zr_ast (t0 := 2) (n := 6) (ci := 0) (r := (RX0, TX0, 3)) (f := fun j => if j < nD S then some (ad 0 j) else none) C.hx C.hb C.hE (hW2.at (by decide) lA) rfl (hP2 0 _ rfl) rfl hin eX7_depot_49 (fun H3 j3 hat3 z3 o3 => ?_)
  have hne : ad 7 0 ≠ ad 18 0 := fun e => by have := (hW.2.1 7 0 18 0 (by decide) (by decide) l7 lA e).1; omega
  have h73 : va_at X.g.1 vwCl (ad 7 0, .inr (7, zobj ad (S 7 0) 7 0)) H3 := (hW2.ob l7 (by decide)).kept (o3 _ hne)
  refine lv_aload_n C.hx C.hb eX7_depot_50 rfl g0 ?_
  refine lv_dup C.hx C.hb eX7_depot_51 rfl ?_
  refine zr_gf (v := .int (S 7 0 8)) C zK7 (f := 8) (by decide) zv_134 rfl h73 rfl eX7_depot_52 ?_
  refine lv_iconst (v := 1) C.hx C.hb eX7_depot_55 (by decide) ?_
  refine lv_iadd C.hx C.hb eX7_depot_56 ?_
  have hv1 : S 7 0 8 + 1 = nI (nD S + 1) := by rw [hnv]; exact nI_add (nD S) 1
  rw [hv1]
  refine zput_raw (X := zXc X (X.ce + 1 + 1) (X.sl + 3 + 6)) (D := X.g.1) (ci := 7) (ty := .int) (C := RX7) (T := TX7) (N := 19) C.hx C.hb C.hw zK7.2.1 tyX7 tyX7_ok nmX7 C.hown C.hE.2.1 h73 rfl 8 (by decide) (C.hw _ zv_134) (fun x hx => hx) rfl (tyX7_ok 8 (by decide)) rfl rfl (by rw [zobj_len]; decide) eX7_depot_57 (fun H4 j4 hat4 z4 o4 => ?_)
  have hold4 : ∀ q, q < H.size → q ≠ ad 18 0 → q ≠ ad 7 0 → H4[q]? = H[q]? := fun q h1 h2 h3 => (o4 q h3).trans ((o3 q h2).trans (o12 q h1))
  have hlt7 := (hW.1 7 0 (by decide) l7).lt
  have hltA := (hW.1 18 0 (by decide) lA).lt
  have hn4 : ∀ q, H.size ≤ q → H4[q]? = H2[q]? := fun q hq => (o4 q (fun e => by rw [e] at hq; exact absurd hlt7 (Nat.not_lt.mpr hq))).trans (o3 q (fun e => by rw [e] at hq; exact absurd hltA (Nat.not_lt.mpr hq)))
  have hge : ∀ q, va_A [(H.size, .inr (0, [.int 0, .null, .null]))] H1.size q → H.size ≤ q := fun q h => by
    rcases h with ⟨k9, e9, h⟩ | h
    · have h1 : k9 < 1 := (List.getElem?_eq_some_iff.mp h).1
      cases (show k9 = 0 by omega)
      cases h
      exact Nat.le_refl _
    · omega
  obtain ⟨ad', had⟩ : ∃ ad' : ZA, ad' = fun k i => if k = 0 ∧ i = nD S then H.size else if k = 9 ∧ i = nD S then qs.getD 0 0 else ad k i := ⟨_, rfl⟩
  have a_o : ad' 0 (nD S) = H.size := by rw [had]; exact if_pos ⟨rfl, rfl⟩
  have a_q : ad' 9 (nD S) = qs.getD 0 0 := by rw [had]; exact (if_neg (by omega)).trans (if_pos ⟨rfl, rfl⟩)
  have hE' : zExt S ad ad' := fun k i hl => by
    rw [had]
    have h1 : ¬ (k = 0 ∧ i = nD S) := by rintro ⟨rfl, rfl⟩; exact absurd (show nD S < nD S from hl) (Nat.lt_irrefl _)
    have h2 : ¬ (k = 9 ∧ i = nD S) := by rintro ⟨rfl, rfl⟩; exact absurd (show nD S < nD S from hl) (Nat.lt_irrefl _)
    exact (if_neg h1).trans (if_neg h2)
  have hS7 : zgrD S a 7 0 = fun f => if f = 8 then nI (nD S + 1) else S 7 0 f := zgr7 (by decide) (fun i => rfl)
  have c_nD : nD (zgrD S a) = nD S + 1 := by
    show (zgrD S a 7 0 8).toNatClampNeg = _
    rw [hS7]
    exact nI_clamp (by omega)
  have c_nP : nP (zgrD S a) = nP S := by
    show (zgrD S a 7 0 7).toNatClampNeg = _
    rw [hS7]
    rfl
  have c_nS : nS (zgrD S a) = nS S := by
    show (zgrD S a 7 0 9).toNatClampNeg = _
    rw [hS7]
    rfl
  have c_nF : nF (zgrD S a) = nF S := by
    show (zgrD S a 7 0 10).toNatClampNeg = _
    rw [hS7]
    rfl
  have hs' : ∀ k i, zlv S k i → k ≠ 7 → zgrD S a k i = S k i := fun k i hl h7 => zgr_same (by rintro ⟨rfl, rfl⟩; exact absurd (show nD S < nD S from hl) (Nat.lt_irrefl _)) (fun h => h7 h.1) (by
    rw [Bool.eq_false_iff]
    intro h
    obtain ⟨h1, h2⟩ := (Bool.and_eq_true _ _).mp h
    cases Nat.eq_of_beq_eq_true h1
    cases Nat.eq_of_beq_eq_true h2
    exact absurd (show nD S < nD S from hl) (Nat.lt_irrefl _))
  have hwf : zWF (zgrD S a) := by
    obtain ⟨w1, w2, w3, w4⟩ := hW.2.2.2
    refine ⟨fun i hi => ?_, fun i hi => ?_, fun i hi => ?_, fun i hi => ?_⟩
    · rw [c_nD] at hi
      by_cases e : i = nD S
      · subst e
        rw [show zgrD S a 0 (nD S) = zFD (nD S) a from zgr_new]
        show a < 0 ∨ a.toNatClampNeg < nD S
        rcases x with _ | j9
        · rw [hx2 rfl]; exact Or.inl (by decide)
        · obtain ⟨h1, h2⟩ := hx1 j9 rfl
          rw [h2, nI_clamp (Nat.lt_trans h1 (zn_lt _))]
          exact Or.inr h1
      · have hi2 : i < nD S := by omega
        rw [hs' 0 i hi2 (by decide)]
        exact w1 i hi2
    · rw [c_nF] at hi; rw [hs' 1 i hi (by decide), c_nD]; exact Nat.lt_succ_of_lt (w2 i hi)
    · rw [c_nP] at hi; rw [hs' 3 i hi (by decide), c_nS]; exact w3 i hi
    · rw [c_nS] at hi; rw [hs' 6 i hi (by decide), c_nD]; exact Nat.lt_succ_of_lt (w4 i hi)
  have hM' : zMono S (zgrD S a) := ⟨by omega, by omega, by omega, by omega⟩
  have hW' : zW X.g ad' (zgrD S a) H4 := by
    refine hW.grown hb hE' hwf (fun k i hk hl => ?_) (fun k i hk hl hno => ?_) (fun k i k' i' hk hk' hl hno hl' hno' e => ?_)
    · by_cases k7 : k = 7
      · subst k7
        have hi : i = 0 := hl.2
        subst hi
        rw [zcon_ob (by decide), hS7]
        have e7 : zobj ad' (fun f => if f = 8 then nI (nD S + 1) else S 7 0 f) 7 0 = (zobj ad (S 7 0) 7 0).set 8 (.int (nI (nD S + 1))) := by
          rw [zobj_set ad' (S 7 0) 7 0 8 (nI (nD S + 1)) (by decide) (.inl (nI (nD S + 1))) rfl, zobj_ext hW.2.2.2 hE' l7 (by decide)]
          rfl
        rw [e7]
        exact hat4
      · by_cases kA : k = 18
        · subst kA
          have hi : i = 0 := hl.2
          subst hi
          refine va_at_q (f := va_up (fun j => if j < nD S then some (ad 0 j) else none) (S 7 0 8).toNatClampNeg (some H.size)) (hat3.kept (o4 _ (Ne.symm hne))) (fun t ht => ?_)
          show (if t < nD (zgrD S a) then some (ad' 0 t) else none) = if t = nD S then some H.size else if t < nD S then some (ad 0 t) else none
          rw [c_nD]
          by_cases e : t = nD S
          · rw [if_pos e, if_pos (by omega), e, a_o]
          · by_cases e2 : t < nD S
            · rw [if_neg e, if_pos e2, if_pos (by omega), hE' 0 t e2]
            · rw [if_neg e, if_neg e2, if_neg (by omega)]
        · refine zcon_old hW hE' hk hl (hs' k i hl k7) (fun _ => c_nP) (fun e => absurd e kA) (fun _ => c_nS) (fun _ => c_nF) (hold4 _ (hW.1 k i hk hl).lt (fun e => kA (hW.2.1 k i 18 0 hk (by decide) hl lA e).1) (fun e => k7 (hW.2.1 k i 7 0 hk (by decide) hl l7 e).1))
    · have hc : (k = 0 ∧ i = nD S) ∨ (k = 9 ∧ i = nD S) := zlv_newD hk hl hno c_nD c_nP c_nS c_nF
      rcases hc with ⟨rfl, rfl⟩ | ⟨rfl, rfl⟩
      · rw [a_o]
        refine ⟨?_, Nat.le_refl _⟩
        rw [zcon_ob (by decide), show zgrD S a 0 (nD S) = zFD (nD S) a from zgr_new]
        have e : zobj ad' (zFD (nD S) a) 0 (nD S) = [.int (nI (nD S)), zc ad' (.inr (.inr (if a < 0 then none else some (0, a.toNatClampNeg)))), .ref (ad' 9 (nD S))] := rfl
        have e2 : zc ad' (.inr (.inr (if a < 0 then none else some (0, a.toNatClampNeg)))) = va_rf (x.map (ad 0)) := by
          rcases x with _ | j9
          · rw [hx2 rfl, if_pos (by decide)]; rfl
          · obtain ⟨h1, h2⟩ := hx1 j9 rfl
            have hj31 := Nat.lt_trans h1 (zn_lt _)
            rw [h2, if_neg (fun h => ((vp_in_nI (n := j9) (N := j9 + 1) (by omega) (by omega)) (Or.inl h)).elim), nI_clamp hj31]
            show Value.ref (ad' 0 j9) = Value.ref (ad 0 j9)
            rw [hE' 0 j9 h1]
        rw [e, e2, a_q, ← hnv]
        exact (hP2 0 _ rfl).kept (hn4 _ (Nat.le_refl _))
      · have hq := hge _ (hD2.2 1 _ rfl)
        rw [a_q]
        refine ⟨?_, hq⟩
        rw [zcon_row rfl, show zgrD S a 9 (nD S) = fun _ => 0 from zgr_sub (by omega) (by decide) (by simp [zsubD, zbq])]
        exact (hP2 1 _ rfl).kept (hn4 _ hq)
    · have hc : (k = 0 ∧ i = nD S) ∨ (k = 9 ∧ i = nD S) := zlv_newD hk hl hno c_nD c_nP c_nS c_nF
      have hc' : (k' = 0 ∧ i' = nD S) ∨ (k' = 9 ∧ i' = nD S) := zlv_newD hk' hl' hno' c_nD c_nP c_nS c_nF
      rcases hc with ⟨rfl, rfl⟩ | ⟨rfl, rfl⟩ <;> rcases hc' with ⟨rfl, rfl⟩ | ⟨rfl, rfl⟩
      · exact ⟨rfl, rfl⟩
      · rw [a_o, a_q] at e
        exact absurd (hD2.1 0 1 _ _ rfl rfl e) (by decide)
      · rw [a_o, a_q] at e
        exact absurd (hD2.1 1 0 _ _ rfl rfl e) (by decide)
      · exact ⟨rfl, rfl⟩
  exact hk L [] (zgrD S a) ad' H4 _ ls hP hW' (hM.tr hM') (hE.tr hM hE') ((hS2.put z3 o3 (hW.2.2.1 18 0 (by decide) lA)).put z4 o4 (hW.2.2.1 7 0 (by decide) l7)) (hL.ext hM' hE') trivial
end
section
theorem eX7_farm_29 : decode cX7_farm 29 = .ok (.aload_n 0, 1) := by decide +kernel
theorem eX7_farm_30 : decode cX7_farm 30 = .ok (.getfield 35, 3) := by decide +kernel
theorem eX7_farm_33 : decode cX7_farm 33 = .ok (.aload_n 0, 1) := by decide +kernel
theorem eX7_farm_34 : decode cX7_farm 34 = .ok (.getfield 60, 3) := by decide +kernel
theorem eX7_farm_37 : decode cX7_farm 37 = .ok (.new 33, 3) := by decide +kernel
theorem eX7_farm_40 : decode cX7_farm 40 = .ok (.dup, 1) := by decide +kernel
theorem eX7_farm_41 : decode cX7_farm 41 = .ok (.aload 4, 2) := by decide +kernel
theorem eX7_farm_43 : decode cX7_farm 43 = .ok (.iload_n 2, 1) := by decide +kernel
theorem eX7_farm_44 : decode cX7_farm 44 = .ok (.iload_n 3, 1) := by decide +kernel
theorem eX7_farm_45 : decode cX7_farm 45 = .ok (.invokespecial 285, 3) := by decide +kernel
theorem eX7_farm_48 : decode cX7_farm 48 = .ok (.aastore, 1) := by decide +kernel
theorem eX7_farm_49 : decode cX7_farm 49 = .ok (.aload_n 0, 1) := by decide +kernel
theorem eX7_farm_50 : decode cX7_farm 50 = .ok (.dup, 1) := by decide +kernel
theorem eX7_farm_51 : decode cX7_farm 51 = .ok (.getfield 60, 3) := by decide +kernel
theorem eX7_farm_54 : decode cX7_farm 54 = .ok (.iconst 1, 1) := by decide +kernel
theorem eX7_farm_55 : decode cX7_farm 55 = .ok (.iadd, 1) := by decide +kernel
theorem eX7_farm_56 : decode cX7_farm 56 = .ok (.putfield 60, 3) := by decide +kernel
set_option maxHeartbeats 4000000 in
set_option maxRecDepth 20000 in
theorem zgo_F {X : ZX} {kk : ZP} (C : zCx X cX7_farm RX7 (some .int) 7 112 2 11) (hk : ZOK (zXc X (X.ce + 1) (X.sl + 5)) 59 kk) {L : List (Option ZV)} {S : ZS} {ad : ZA} {H : Heap} {locs : List Loc} {ls : Array Slot} {j : Nat} {gd qt : Int32} (hP : kk L [] (zgrF S j gd qt) X.K) (hin : vp_in (S 7 0 10) 6) (g0 : ls[0]? = some (.val (.ref (ad 7 0)))) (g4 : ls[4]? = some (.val (.ref (ad 0 j)))) (g2 : ls[2]? = some (.val (.int gd))) (g3 : ls[3]? = some (.val (.int qt))) (hj : j < nD S) (hW : zW X.g ad S H) (hM : zMono X.S0 S) (hE : zExt X.S0 X.ad ad) (hS : va_S (zAA X.g) X.s.heap H locs) (hL : zLR ad S ls X.nL L) : zGo X H locs (F0 X.m 29 ls []) := by
  have hce := C.hce
  have hsl := C.hsl
  have hF := C.hF
  have hLo := C.hLo
  obtain ⟨hnv, hnl⟩ : S 7 0 10 = nI (nF S) ∧ nF S < 6 := by
    obtain ⟨n, h1, h2⟩ := vp_in_of hin (by decide)
    have h3 : nF S = n := by
      show (S 7 0 10).toNatClampNeg = n
      rw [h2]
      exact nI_clamp (by omega)
    rw [h3]
    exact ⟨h2, h1⟩
  have l7 : zlv S 7 0 := ⟨by decide, rfl⟩
  have lA : zlv S 20 0 := ⟨by decide, rfl⟩
  have hb : X.g.2.2 ≤ H.size := Nat.le_trans C.hE.1.1 hS.1
  have h7 := hW.ob l7 (by decide)
  refine lv_aload_n C.hx C.hb eX7_farm_29 rfl g0 ?_
  refine zr_gf (v := .ref (ad 20 0)) C zK7 (f := 4) (by decide) zv_130 rfl h7 rfl eX7_farm_30 ?_
  refine lv_aload_n C.hx C.hb eX7_farm_33 rfl g0 ?_
  refine zr_gf (v := .int (S 7 0 10)) C zK7 (f := 10) (by decide) zv_136 rfl h7 rfl eX7_farm_34 ?_
  refine zr_new (fs := [.null, .int 0, .int 0, .int 0, .int 0]) C.hx C.hb C.hw C.hown C.hE zK1 zv_75 zu_733 zu_58 (fun j hj => by rcases (show j = 0 ∨ j = 1 ∨ j = 2 ∨ j = 3 ∨ j = 4 by omega) with rfl | rfl | rfl | rfl | rfl <;> rfl) (by omega) (by omega) eX7_farm_37 (fun H1 hat z1 o1 => ?_)
  have hW1 := hW.kept o1
  have h71 := hW1.ob l7 (by decide)
  have hS1 : va_S (zAA X.g) X.s.heap H1 locs := ⟨Nat.le_trans hS.1 (by omega), fun q h1 h2 => (o1 q (Nat.lt_of_lt_of_le h1 hS.1)).trans (hS.2.1 q h1 h2), hS.2.2⟩
  refine lv_dup C.hx C.hb eX7_farm_40 rfl ?_
  refine lv_aload C.hx C.hb eX7_farm_41 g4 ?_
  refine lv_iload_n C.hx C.hb eX7_farm_43 rfl g2 ?_
  refine lv_iload_n C.hx C.hb eX7_farm_44 rfl g3 ?_
  refine zc_run (n := 3) (As := [.ref (ad 0 j), .int gd, .int qt]) (rest := [.ref H.size, .int (S 7 0 10), .ref (ad 20 0)]) C.B (zmk_X1 X.l X.g (ad 0 j) gd qt) (Or.inl zu_734) zu_736 zu_58 zu_735 rfl ⟨by decide +kernel, by decide +kernel, by decide +kernel⟩ rfl ⟨rfl, rfl⟩ ⟨by show 1 + 1 ≤ _; omega, by show 8 + (4 + 11) + 12 ≤ _; omega⟩ (by omega) (by omega) hat hS1 hb hL.1 (Nat.le_of_ble_eq_true rfl) eX7_farm_45 (fun qs H2 locs2 hP2 hD2 z2 o2 hS2 => ?_)
  have o12 : ∀ q, q < H.size → H2[q]? = H[q]? := fun q hq => (o2 q (by omega) (by omega)).trans (o1 q hq)
  have hW2 := hW.kept o12
  refine zr_ast (t0 := 3) (n := 6) (ci := 1) (r := (RX1, TX1, 5)) (f := fun j => if j < nF S then some (ad 1 j) else none) C.hx C.hb C.hE (hW2.at (by decide) lA) rfl (hP2 0 _ rfl) rfl hin eX7_farm_48 (fun H3 j3 hat3 z3 o3 => ?_)
  have hne : ad 7 0 ≠ ad 20 0 := fun e => by have := (hW.2.1 7 0 20 0 (by decide) (by decide) l7 lA e).1; omega
  have h73 : va_at X.g.1 vwCl (ad 7 0, .inr (7, zobj ad (S 7 0) 7 0)) H3 := (hW2.ob l7 (by decide)).kept (o3 _ hne)
  refine lv_aload_n C.hx C.hb eX7_farm_49 rfl g0 ?_
  refine lv_dup C.hx C.hb eX7_farm_50 rfl ?_
  refine zr_gf (v := .int (S 7 0 10)) C zK7 (f := 10) (by decide) zv_136 rfl h73 rfl eX7_farm_51 ?_
  refine lv_iconst (v := 1) C.hx C.hb eX7_farm_54 (by decide) ?_
  refine lv_iadd C.hx C.hb eX7_farm_55 ?_
  have hv1 : S 7 0 10 + 1 = nI (nF S + 1) := by rw [hnv]; exact nI_add (nF S) 1
  rw [hv1]
  refine zput_raw (X := zXc X (X.ce + 1 + 0) (X.sl + 5 + 0)) (D := X.g.1) (ci := 7) (ty := .int) (C := RX7) (T := TX7) (N := 19) C.hx C.hb C.hw zK7.2.1 tyX7 tyX7_ok nmX7 C.hown C.hE.2.1 h73 rfl 10 (by decide) (C.hw _ zv_136) (fun x hx => hx) rfl (tyX7_ok 10 (by decide)) rfl rfl (by rw [zobj_len]; decide) eX7_farm_56 (fun H4 j4 hat4 z4 o4 => ?_)
  have hold4 : ∀ q, q < H.size → q ≠ ad 20 0 → q ≠ ad 7 0 → H4[q]? = H[q]? := fun q h1 h2 h3 => (o4 q h3).trans ((o3 q h2).trans (o12 q h1))
  have hlt7 := (hW.1 7 0 (by decide) l7).lt
  have hltA := (hW.1 20 0 (by decide) lA).lt
  have hn4 : ∀ q, H.size ≤ q → H4[q]? = H2[q]? := fun q hq => (o4 q (fun e => by rw [e] at hq; exact absurd hlt7 (Nat.not_lt.mpr hq))).trans (o3 q (fun e => by rw [e] at hq; exact absurd hltA (Nat.not_lt.mpr hq)))
  have hge : ∀ q, va_A [(H.size, .inr (1, [.null, .int 0, .int 0, .int 0, .int 0]))] H1.size q → H.size ≤ q := fun q h => by
    rcases h with ⟨k9, e9, h⟩ | h
    · have h1 : k9 < 1 := (List.getElem?_eq_some_iff.mp h).1
      cases (show k9 = 0 by omega)
      cases h
      exact Nat.le_refl _
    · omega
  obtain ⟨ad', had⟩ : ∃ ad' : ZA, ad' = fun k i => if k = 1 ∧ i = nF S then H.size else ad k i := ⟨_, rfl⟩
  have a_o : ad' 1 (nF S) = H.size := by rw [had]; exact if_pos ⟨rfl, rfl⟩
  have hE' : zExt S ad ad' := fun k i hl => by
    rw [had]
    have h1 : ¬ (k = 1 ∧ i = nF S) := by rintro ⟨rfl, rfl⟩; exact absurd (show nF S < nF S from hl) (Nat.lt_irrefl _)
    exact if_neg h1
  have hS7 : zgrF S j gd qt 7 0 = fun f => if f = 10 then nI (nF S + 1) else S 7 0 f := zgr7 (by decide) (fun i => rfl)
  have c_nD : nD (zgrF S j gd qt) = nD S := by
    show (zgrF S j gd qt 7 0 8).toNatClampNeg = _
    rw [hS7]
    rfl
  have c_nP : nP (zgrF S j gd qt) = nP S := by
    show (zgrF S j gd qt 7 0 7).toNatClampNeg = _
    rw [hS7]
    rfl
  have c_nS : nS (zgrF S j gd qt) = nS S := by
    show (zgrF S j gd qt 7 0 9).toNatClampNeg = _
    rw [hS7]
    rfl
  have c_nF : nF (zgrF S j gd qt) = nF S + 1 := by
    show (zgrF S j gd qt 7 0 10).toNatClampNeg = _
    rw [hS7]
    exact nI_clamp (by omega)
  have hs' : ∀ k i, zlv S k i → k ≠ 7 → zgrF S j gd qt k i = S k i := fun k i hl h7 => zgr_same (by rintro ⟨rfl, rfl⟩; exact absurd (show nF S < nF S from hl) (Nat.lt_irrefl _)) (fun h => h7 h.1) rfl
  have hwf : zWF (zgrF S j gd qt) := by
    obtain ⟨w1, w2, w3, w4⟩ := hW.2.2.2
    refine ⟨fun i hi => ?_, fun i hi => ?_, fun i hi => ?_, fun i hi => ?_⟩
    · rw [c_nD] at hi; rw [hs' 0 i hi (by decide)]; exact w1 i hi
    · rw [c_nF] at hi
      rw [c_nD]
      by_cases e : i = nF S
      · subst e
        rw [show zgrF S j gd qt 1 (nF S) = zFF j gd qt from zgr_new]
        show (nI j).toNatClampNeg < nD S
        rw [nI_clamp (Nat.lt_trans hj (zn_lt _))]
        exact hj
      · have hi2 : i < nF S := by omega
        rw [hs' 1 i hi2 (by decide)]
        exact w2 i hi2
    · rw [c_nP] at hi; rw [hs' 3 i hi (by decide), c_nS]; exact w3 i hi
    · rw [c_nS] at hi; rw [hs' 6 i hi (by decide), c_nD]; exact w4 i hi
  have hM' : zMono S (zgrF S j gd qt) := ⟨by omega, by omega, by omega, by omega⟩
  have hW' : zW X.g ad' (zgrF S j gd qt) H4 := by
    refine hW.grown hb hE' hwf (fun k i hk hl => ?_) (fun k i hk hl hno => ?_) (fun k i k' i' hk hk' hl hno hl' hno' e => ?_)
    · by_cases k7 : k = 7
      · subst k7
        have hi : i = 0 := hl.2
        subst hi
        rw [zcon_ob (by decide), hS7]
        have e7 : zobj ad' (fun f => if f = 10 then nI (nF S + 1) else S 7 0 f) 7 0 = (zobj ad (S 7 0) 7 0).set 10 (.int (nI (nF S + 1))) := by
          rw [zobj_set ad' (S 7 0) 7 0 10 (nI (nF S + 1)) (by decide) (.inl (nI (nF S + 1))) rfl, zobj_ext hW.2.2.2 hE' l7 (by decide)]
          rfl
        rw [e7]
        exact hat4
      · by_cases kA : k = 20
        · subst kA
          have hi : i = 0 := hl.2
          subst hi
          refine va_at_q (f := va_up (fun j => if j < nF S then some (ad 1 j) else none) (S 7 0 10).toNatClampNeg (some H.size)) (hat3.kept (o4 _ (Ne.symm hne))) (fun t ht => ?_)
          show (if t < nF (zgrF S j gd qt) then some (ad' 1 t) else none) = if t = nF S then some H.size else if t < nF S then some (ad 1 t) else none
          rw [c_nF]
          by_cases e : t = nF S
          · rw [if_pos e, if_pos (by omega), e, a_o]
          · by_cases e2 : t < nF S
            · rw [if_neg e, if_pos e2, if_pos (by omega), hE' 1 t e2]
            · rw [if_neg e, if_neg e2, if_neg (by omega)]
        · refine zcon_old hW hE' hk hl (hs' k i hl k7) (fun _ => c_nP) (fun _ => c_nD) (fun _ => c_nS) (fun e => absurd e kA) (hold4 _ (hW.1 k i hk hl).lt (fun e => kA (hW.2.1 k i 20 0 hk (by decide) hl lA e).1) (fun e => k7 (hW.2.1 k i 7 0 hk (by decide) hl l7 e).1))
    · have hc : k = 1 ∧ i = nF S := zlv_newF hk hl hno c_nD c_nP c_nS c_nF
      obtain ⟨rfl, rfl⟩ := hc
      rw [a_o]
      refine ⟨?_, Nat.le_refl _⟩
      rw [zcon_ob (by decide), show zgrF S j gd qt 1 (nF S) = zFF j gd qt from zgr_new]
      have e : zobj ad' (zFF j gd qt) 1 (nF S) = [.ref (ad' 0 (nI j).toNatClampNeg), .int gd, .int qt, .int 0, .int 0] := rfl
      rw [e, nI_clamp (Nat.lt_trans hj (zn_lt _)), hE' 0 j hj]
      exact (hP2 0 _ rfl).kept (hn4 _ (Nat.le_refl _))
    · have hc : k = 1 ∧ i = nF S := zlv_newF hk hl hno c_nD c_nP c_nS c_nF
      have hc' : k' = 1 ∧ i' = nF S := zlv_newF hk' hl' hno' c_nD c_nP c_nS c_nF
      obtain ⟨rfl, rfl⟩ := hc
      obtain ⟨rfl, rfl⟩ := hc'
      exact ⟨rfl, rfl⟩
  exact hk L [] (zgrF S j gd qt) ad' H4 _ ls hP hW' (hM.tr hM') (hE.tr hM hE') ((hS2.put z3 o3 (hW.2.2.1 20 0 (by decide) lA)).put z4 o4 (hW.2.2.1 7 0 (by decide) l7)) (hL.ext hM' hE') trivial
end
section
theorem eX7_shop_15 : decode cX7_shop 15 = .ok (.aload_n 0, 1) := by decide +kernel
theorem eX7_shop_16 : decode cX7_shop 16 = .ok (.getfield 29, 3) := by decide +kernel
theorem eX7_shop_19 : decode cX7_shop 19 = .ok (.aload_n 0, 1) := by decide +kernel
theorem eX7_shop_20 : decode cX7_shop 20 = .ok (.getfield 57, 3) := by decide +kernel
theorem eX7_shop_23 : decode cX7_shop 23 = .ok (.new 27, 3) := by decide +kernel
theorem eX7_shop_26 : decode cX7_shop 26 = .ok (.dup, 1) := by decide +kernel
theorem eX7_shop_27 : decode cX7_shop 27 = .ok (.aload_n 0, 1) := by decide +kernel
theorem eX7_shop_28 : decode cX7_shop 28 = .ok (.getfield 57, 3) := by decide +kernel
theorem eX7_shop_31 : decode cX7_shop 31 = .ok (.aload_n 2, 1) := by decide +kernel
theorem eX7_shop_32 : decode cX7_shop 32 = .ok (.invokespecial 213, 3) := by decide +kernel
theorem eX7_shop_35 : decode cX7_shop 35 = .ok (.aastore, 1) := by decide +kernel
theorem eX7_shop_36 : decode cX7_shop 36 = .ok (.aload_n 0, 1) := by decide +kernel
theorem eX7_shop_37 : decode cX7_shop 37 = .ok (.dup, 1) := by decide +kernel
theorem eX7_shop_38 : decode cX7_shop 38 = .ok (.getfield 57, 3) := by decide +kernel
theorem eX7_shop_41 : decode cX7_shop 41 = .ok (.iconst 1, 1) := by decide +kernel
theorem eX7_shop_42 : decode cX7_shop 42 = .ok (.iadd, 1) := by decide +kernel
theorem eX7_shop_43 : decode cX7_shop 43 = .ok (.putfield 57, 3) := by decide +kernel
set_option maxHeartbeats 4000000 in
set_option maxRecDepth 20000 in
theorem zgo_S {X : ZX} {kk : ZP} (C : zCx X cX7_shop RX7 (some .int) 7 111 9 51) (hk : ZOK (zXc X (X.ce + 8) (X.sl + 45)) 46 kk) {L : List (Option ZV)} {S : ZS} {ad : ZA} {H : Heap} {locs : List Loc} {ls : Array Slot} {j : Nat} (hP : kk L [] (zgrS S j) X.K) (hin : vp_in (S 7 0 9) 6) (g0 : ls[0]? = some (.val (.ref (ad 7 0)))) (g2 : ls[2]? = some (.val (.ref (ad 0 j)))) (hj : j < nD S) (hW : zW X.g ad S H) (hM : zMono X.S0 S) (hE : zExt X.S0 X.ad ad) (hS : va_S (zAA X.g) X.s.heap H locs) (hL : zLR ad S ls X.nL L) : zGo X H locs (F0 X.m 15 ls []) := by
  have hce := C.hce
  have hsl := C.hsl
  have hF := C.hF
  have hLo := C.hLo
  obtain ⟨hnv, hnl⟩ : S 7 0 9 = nI (nS S) ∧ nS S < 6 := by
    obtain ⟨n, h1, h2⟩ := vp_in_of hin (by decide)
    have h3 : nS S = n := by
      show (S 7 0 9).toNatClampNeg = n
      rw [h2]
      exact nI_clamp (by omega)
    rw [h3]
    exact ⟨h2, h1⟩
  have l7 : zlv S 7 0 := ⟨by decide, rfl⟩
  have lA : zlv S 19 0 := ⟨by decide, rfl⟩
  have hb : X.g.2.2 ≤ H.size := Nat.le_trans C.hE.1.1 hS.1
  have h7 := hW.ob l7 (by decide)
  refine lv_aload_n C.hx C.hb eX7_shop_15 rfl g0 ?_
  refine zr_gf (v := .ref (ad 19 0)) C zK7 (f := 3) (by decide) zv_129 rfl h7 rfl eX7_shop_16 ?_
  refine lv_aload_n C.hx C.hb eX7_shop_19 rfl g0 ?_
  refine zr_gf (v := .int (S 7 0 9)) C zK7 (f := 9) (by decide) zv_135 rfl h7 rfl eX7_shop_20 ?_
  refine zr_new (fs := [.int 0, .null, .null]) C.hx C.hb C.hw C.hown C.hE zK6 zv_73 zu_542 zu_56 (fun j hj => by rcases (show j = 0 ∨ j = 1 ∨ j = 2 by omega) with rfl | rfl | rfl <;> rfl) (by omega) (by omega) eX7_shop_23 (fun H1 hat z1 o1 => ?_)
  have hW1 := hW.kept o1
  have h71 := hW1.ob l7 (by decide)
  have hS1 : va_S (zAA X.g) X.s.heap H1 locs := ⟨Nat.le_trans hS.1 (by omega), fun q h1 h2 => (o1 q (Nat.lt_of_lt_of_le h1 hS.1)).trans (hS.2.1 q h1 h2), hS.2.2⟩
  refine lv_dup C.hx C.hb eX7_shop_26 rfl ?_
  refine lv_aload_n C.hx C.hb eX7_shop_27 rfl g0 ?_
  refine zr_gf (v := .int (S 7 0 9)) C zK7 (f := 9) (by decide) zv_135 rfl h71 rfl eX7_shop_28 ?_
  refine lv_aload_n C.hx C.hb eX7_shop_31 rfl g2 ?_
  refine zc_run (n := 2) (As := [.int (S 7 0 9), .ref (ad 0 j)]) (rest := [.ref H.size, .int (S 7 0 9), .ref (ad 19 0)]) C.B (zmk_X6 X.l X.g (S 7 0 9) (ad 0 j)) (Or.inl zu_543) zu_545 zu_56 zu_544 rfl ⟨by decide +kernel, by decide +kernel, by decide +kernel⟩ rfl ⟨rfl, rfl⟩ ⟨by show 2 + 1 ≤ _; omega, by show 8 + (4 + 11) + 32 ≤ _; omega⟩ (by omega) (by omega) hat hS1 hb hL.1 (Nat.le_of_ble_eq_true rfl) eX7_shop_32 (fun qs H2 locs2 hP2 hD2 z2 o2 hS2 => ?_)
  have o12 : ∀ q, q < H.size → H2[q]? = H[q]? := fun q hq => (o2 q (by omega) (by omega)).trans (o1 q hq)
  have hW2 := hW.kept o12
  refine zr_ast (t0 := 7) (n := 6) (ci := 6) (r := (RX6, TX6, 3)) (f := fun j => if j < nS S then some (ad 6 j) else none) C.hx C.hb C.hE (hW2.at (by decide) lA) rfl (hP2 0 _ rfl) rfl hin eX7_shop_35 (fun H3 j3 hat3 z3 o3 => ?_)
  have hne : ad 7 0 ≠ ad 19 0 := fun e => by have := (hW.2.1 7 0 19 0 (by decide) (by decide) l7 lA e).1; omega
  have h73 : va_at X.g.1 vwCl (ad 7 0, .inr (7, zobj ad (S 7 0) 7 0)) H3 := (hW2.ob l7 (by decide)).kept (o3 _ hne)
  refine lv_aload_n C.hx C.hb eX7_shop_36 rfl g0 ?_
  refine lv_dup C.hx C.hb eX7_shop_37 rfl ?_
  refine zr_gf (v := .int (S 7 0 9)) C zK7 (f := 9) (by decide) zv_135 rfl h73 rfl eX7_shop_38 ?_
  refine lv_iconst (v := 1) C.hx C.hb eX7_shop_41 (by decide) ?_
  refine lv_iadd C.hx C.hb eX7_shop_42 ?_
  have hv1 : S 7 0 9 + 1 = nI (nS S + 1) := by rw [hnv]; exact nI_add (nS S) 1
  rw [hv1]
  refine zput_raw (X := zXc X (X.ce + 1 + 7) (X.sl + 3 + 42)) (D := X.g.1) (ci := 7) (ty := .int) (C := RX7) (T := TX7) (N := 19) C.hx C.hb C.hw zK7.2.1 tyX7 tyX7_ok nmX7 C.hown C.hE.2.1 h73 rfl 9 (by decide) (C.hw _ zv_135) (fun x hx => hx) rfl (tyX7_ok 9 (by decide)) rfl rfl (by rw [zobj_len]; decide) eX7_shop_43 (fun H4 j4 hat4 z4 o4 => ?_)
  have hold4 : ∀ q, q < H.size → q ≠ ad 19 0 → q ≠ ad 7 0 → H4[q]? = H[q]? := fun q h1 h2 h3 => (o4 q h3).trans ((o3 q h2).trans (o12 q h1))
  have hlt7 := (hW.1 7 0 (by decide) l7).lt
  have hltA := (hW.1 19 0 (by decide) lA).lt
  have hn4 : ∀ q, H.size ≤ q → H4[q]? = H2[q]? := fun q hq => (o4 q (fun e => by rw [e] at hq; exact absurd hlt7 (Nat.not_lt.mpr hq))).trans (o3 q (fun e => by rw [e] at hq; exact absurd hltA (Nat.not_lt.mpr hq)))
  have hge : ∀ q, va_A [(H.size, .inr (6, [.int 0, .null, .null]))] H1.size q → H.size ≤ q := fun q h => by
    rcases h with ⟨k9, e9, h⟩ | h
    · have h1 : k9 < 1 := (List.getElem?_eq_some_iff.mp h).1
      cases (show k9 = 0 by omega)
      cases h
      exact Nat.le_refl _
    · omega
  obtain ⟨ad', had⟩ : ∃ ad' : ZA, ad' = fun k i => if k = 6 ∧ i = nS S then H.size else if k = 21 ∧ i = nS S then qs.getD 0 0 else if k = 5 ∧ 6 * nS S ≤ i then qs.getD (i - 6 * nS S + 1) 0 else ad k i := ⟨_, rfl⟩
  have a_o : ad' 6 (nS S) = H.size := by rw [had]; exact if_pos ⟨rfl, rfl⟩
  have a_q : ad' 21 (nS S) = qs.getD 0 0 := by rw [had]; exact (if_neg (by omega)).trans (if_pos ⟨rfl, rfl⟩)
  have a_s : ∀ t, ad' 5 (6 * nS S + t) = qs.getD (t + 1) 0 := fun t => by
    rw [had]
    refine (if_neg (by omega)).trans ((if_neg (by omega)).trans ((if_pos ⟨rfl, by omega⟩).trans ?_))
    rw [show 6 * nS S + t - 6 * nS S = t by omega]
  have hE' : zExt S ad ad' := fun k i hl => by
    rw [had]
    have h1 : ¬ (k = 6 ∧ i = nS S) := by rintro ⟨rfl, rfl⟩; exact absurd (show nS S < nS S from hl) (Nat.lt_irrefl _)
    have h2 : ¬ (k = 21 ∧ i = nS S) := by rintro ⟨rfl, rfl⟩; exact absurd (show nS S < nS S from hl) (Nat.lt_irrefl _)
    have h3 : ¬ (k = 5 ∧ 6 * nS S ≤ i) := by rintro ⟨rfl, h⟩; exact absurd (show i < 6 * nS S from hl) (Nat.not_lt.mpr h)
    exact (if_neg h1).trans ((if_neg h2).trans (if_neg h3))
  have hS7 : zgrS S j 7 0 = fun f => if f = 9 then nI (nS S + 1) else S 7 0 f := zgr7 (by decide) (fun i => rfl)
  have c_nD : nD (zgrS S j) = nD S := by
    show (zgrS S j 7 0 8).toNatClampNeg = _
    rw [hS7]
    rfl
  have c_nP : nP (zgrS S j) = nP S := by
    show (zgrS S j 7 0 7).toNatClampNeg = _
    rw [hS7]
    rfl
  have c_nS : nS (zgrS S j) = nS S + 1 := by
    show (zgrS S j 7 0 9).toNatClampNeg = _
    rw [hS7]
    exact nI_clamp (by omega)
  have c_nF : nF (zgrS S j) = nF S := by
    show (zgrS S j 7 0 10).toNatClampNeg = _
    rw [hS7]
    rfl
  have hs' : ∀ k i, zlv S k i → k ≠ 7 → zgrS S j k i = S k i := fun k i hl h7 => zgr_same (by rintro ⟨rfl, rfl⟩; exact absurd (show nS S < nS S from hl) (Nat.lt_irrefl _)) (fun h => h7 h.1) (by
    rw [Bool.eq_false_iff]
    intro h
    obtain ⟨h1, h2⟩ := (Bool.and_eq_true _ _).mp h
    cases Nat.eq_of_beq_eq_true h1
    have h3 := Nat.le_of_ble_eq_true ((Bool.and_eq_true _ _).mp h2).1
    exact absurd (show i < 6 * nS S from hl) (Nat.not_lt.mpr h3))
  have hz5 : ∀ t, t < 6 → zgrS S j 5 (6 * nS S + t) = fun _ => 0 := fun t ht => zgr_sub (by omega) (by decide) (by
    show (Nat.beq 5 5 && (Nat.ble (6 * nS S) (6 * nS S + t) && Nat.ble (6 * nS S + t) (6 * nS S + 5))) = true
    rw [zble_t (a := 6 * nS S) (b := 6 * nS S + t) (by omega), zble_t (a := 6 * nS S + t) (b := 6 * nS S + 5) (by omega)]
    rfl)
  have hwf : zWF (zgrS S j) := by
    obtain ⟨w1, w2, w3, w4⟩ := hW.2.2.2
    refine ⟨fun i hi => ?_, fun i hi => ?_, fun i hi => ?_, fun i hi => ?_⟩
    · rw [c_nD] at hi; rw [hs' 0 i hi (by decide)]; exact w1 i hi
    · rw [c_nF] at hi; rw [hs' 1 i hi (by decide), c_nD]; exact w2 i hi
    · rw [c_nP] at hi
      rw [hs' 3 i hi (by decide), c_nS]
      exact ⟨Nat.lt_succ_of_lt (w3 i hi).1, Nat.lt_succ_of_lt (w3 i hi).2⟩
    · rw [c_nS] at hi
      rw [c_nD]
      by_cases e : i = nS S
      · subst e
        rw [show zgrS S j 6 (nS S) = zFS (nS S) j from zgr_new]
        show (nI j).toNatClampNeg < nD S
        rw [nI_clamp (Nat.lt_trans hj (zn_lt _))]
        exact hj
      · have hi2 : i < nS S := by omega
        rw [hs' 6 i hi2 (by decide)]
        exact w4 i hi2
  have hM' : zMono S (zgrS S j) := ⟨by omega, by omega, by omega, by omega⟩
  have hW' : zW X.g ad' (zgrS S j) H4 := by
    refine hW.grown hb hE' hwf (fun k i hk hl => ?_) (fun k i hk hl hno => ?_) (fun k i k' i' hk hk' hl hno hl' hno' e => ?_)
    · by_cases k7 : k = 7
      · subst k7
        have hi : i = 0 := hl.2
        subst hi
        rw [zcon_ob (by decide), hS7]
        have e7 : zobj ad' (fun f => if f = 9 then nI (nS S + 1) else S 7 0 f) 7 0 = (zobj ad (S 7 0) 7 0).set 9 (.int (nI (nS S + 1))) := by
          rw [zobj_set ad' (S 7 0) 7 0 9 (nI (nS S + 1)) (by decide) (.inl (nI (nS S + 1))) rfl, zobj_ext hW.2.2.2 hE' l7 (by decide)]
          rfl
        rw [e7]
        exact hat4
      · by_cases kA : k = 19
        · subst kA
          have hi : i = 0 := hl.2
          subst hi
          refine va_at_q (f := va_up (fun j => if j < nS S then some (ad 6 j) else none) (S 7 0 9).toNatClampNeg (some H.size)) (hat3.kept (o4 _ (Ne.symm hne))) (fun t ht => ?_)
          show (if t < nS (zgrS S j) then some (ad' 6 t) else none) = if t = nS S then some H.size else if t < nS S then some (ad 6 t) else none
          rw [c_nS]
          by_cases e : t = nS S
          · rw [if_pos e, if_pos (by omega), e, a_o]
          · by_cases e2 : t < nS S
            · rw [if_neg e, if_pos e2, if_pos (by omega), hE' 6 t e2]
            · rw [if_neg e, if_neg e2, if_neg (by omega)]
        · refine zcon_old hW hE' hk hl (hs' k i hl k7) (fun _ => c_nP) (fun _ => c_nD) (fun e => absurd e kA) (fun _ => c_nF) (hold4 _ (hW.1 k i hk hl).lt (fun e => kA (hW.2.1 k i 19 0 hk (by decide) hl lA e).1) (fun e => k7 (hW.2.1 k i 7 0 hk (by decide) hl l7 e).1))
    · have hc : (k = 6 ∧ i = nS S) ∨ (k = 21 ∧ i = nS S) ∨ (k = 5 ∧ i = 6 * nS S + 0) ∨ (k = 5 ∧ i = 6 * nS S + 1) ∨ (k = 5 ∧ i = 6 * nS S + 2) ∨ (k = 5 ∧ i = 6 * nS S + 3) ∨ (k = 5 ∧ i = 6 * nS S + 4) ∨ (k = 5 ∧ i = 6 * nS S + 5) := zlv_newS hk hl hno c_nD c_nP c_nS c_nF
      rcases hc with ⟨rfl, rfl⟩ | ⟨rfl, rfl⟩ | ⟨rfl, rfl⟩ | ⟨rfl, rfl⟩ | ⟨rfl, rfl⟩ | ⟨rfl, rfl⟩ | ⟨rfl, rfl⟩ | ⟨rfl, rfl⟩
      · rw [a_o]
        refine ⟨?_, Nat.le_refl _⟩
        rw [zcon_ob (by decide), show zgrS S j 6 (nS S) = zFS (nS S) j from zgr_new]
        have e : zobj ad' (zFS (nS S) j) 6 (nS S) = [.int (nI (nS S)), .ref (ad' 0 (nI j).toNatClampNeg), .ref (ad' 21 (nS S))] := rfl
        rw [e, nI_clamp (Nat.lt_trans hj (zn_lt _)), hE' 0 j hj, a_q, ← hnv]
        exact (hP2 0 _ rfl).kept (hn4 _ (Nat.le_refl _))
      · have hq := hge _ (hD2.2 1 _ rfl)
        rw [a_q]
        refine ⟨?_, hq⟩
        refine va_at_q ((hP2 1 _ rfl).kept (hn4 _ hq)) (fun t ht => ?_)
        show some (ad' 5 (6 * nS S + t)) = _
        rw [a_s t]
        rcases (show t = 0 ∨ t = 1 ∨ t = 2 ∨ t = 3 ∨ t = 4 ∨ t = 5 by omega) with rfl | rfl | rfl | rfl | rfl | rfl <;> rfl
      · have hq := hge _ (hD2.2 2 _ rfl)
        rw [a_s 0]
        refine ⟨?_, hq⟩
        rw [zcon_ob (by decide), hz5 0 (by decide)]
        exact (hP2 2 _ rfl).kept (hn4 _ hq)
      · have hq := hge _ (hD2.2 3 _ rfl)
        rw [a_s 1]
        refine ⟨?_, hq⟩
        rw [zcon_ob (by decide), hz5 1 (by decide)]
        exact (hP2 3 _ rfl).kept (hn4 _ hq)
      · have hq := hge _ (hD2.2 4 _ rfl)
        rw [a_s 2]
        refine ⟨?_, hq⟩
        rw [zcon_ob (by decide), hz5 2 (by decide)]
        exact (hP2 4 _ rfl).kept (hn4 _ hq)
      · have hq := hge _ (hD2.2 5 _ rfl)
        rw [a_s 3]
        refine ⟨?_, hq⟩
        rw [zcon_ob (by decide), hz5 3 (by decide)]
        exact (hP2 5 _ rfl).kept (hn4 _ hq)
      · have hq := hge _ (hD2.2 6 _ rfl)
        rw [a_s 4]
        refine ⟨?_, hq⟩
        rw [zcon_ob (by decide), hz5 4 (by decide)]
        exact (hP2 6 _ rfl).kept (hn4 _ hq)
      · have hq := hge _ (hD2.2 7 _ rfl)
        rw [a_s 5]
        refine ⟨?_, hq⟩
        rw [zcon_ob (by decide), hz5 5 (by decide)]
        exact (hP2 7 _ rfl).kept (hn4 _ hq)
    · have hc : (k = 6 ∧ i = nS S) ∨ (k = 21 ∧ i = nS S) ∨ (k = 5 ∧ i = 6 * nS S + 0) ∨ (k = 5 ∧ i = 6 * nS S + 1) ∨ (k = 5 ∧ i = 6 * nS S + 2) ∨ (k = 5 ∧ i = 6 * nS S + 3) ∨ (k = 5 ∧ i = 6 * nS S + 4) ∨ (k = 5 ∧ i = 6 * nS S + 5) := zlv_newS hk hl hno c_nD c_nP c_nS c_nF
      have hc' : (k' = 6 ∧ i' = nS S) ∨ (k' = 21 ∧ i' = nS S) ∨ (k' = 5 ∧ i' = 6 * nS S + 0) ∨ (k' = 5 ∧ i' = 6 * nS S + 1) ∨ (k' = 5 ∧ i' = 6 * nS S + 2) ∨ (k' = 5 ∧ i' = 6 * nS S + 3) ∨ (k' = 5 ∧ i' = 6 * nS S + 4) ∨ (k' = 5 ∧ i' = 6 * nS S + 5) := zlv_newS hk' hl' hno' c_nD c_nP c_nS c_nF
      have pos : ∀ k i, ((k = 6 ∧ i = nS S) ∨ (k = 21 ∧ i = nS S) ∨ (k = 5 ∧ i = 6 * nS S + 0) ∨ (k = 5 ∧ i = 6 * nS S + 1) ∨ (k = 5 ∧ i = 6 * nS S + 2) ∨ (k = 5 ∧ i = 6 * nS S + 3) ∨ (k = 5 ∧ i = 6 * nS S + 4) ∨ (k = 5 ∧ i = 6 * nS S + 5)) → ∃ (p : Nat) (c9 : va_E), (w_X6 X.g (S 7 0 9) (ad 0 j) H.size qs)[p]? = some (ad' k i, c9) ∧ p < 8 ∧ k = (if p = 0 then 6 else if p = 1 then 21 else 5) ∧ i = (if p = 0 then nS S else if p = 1 then nS S else 6 * nS S + (p - 2)) := fun k i h => by
        rcases h with ⟨rfl, rfl⟩ | ⟨rfl, rfl⟩ | ⟨rfl, rfl⟩ | ⟨rfl, rfl⟩ | ⟨rfl, rfl⟩ | ⟨rfl, rfl⟩ | ⟨rfl, rfl⟩ | ⟨rfl, rfl⟩
        · rw [a_o]; exact ⟨0, _, rfl, by decide, rfl, rfl⟩
        · rw [a_q]; exact ⟨1, _, rfl, by decide, rfl, rfl⟩
        · rw [a_s 0]; exact ⟨2, _, rfl, by decide, rfl, rfl⟩
        · rw [a_s 1]; exact ⟨3, _, rfl, by decide, rfl, rfl⟩
        · rw [a_s 2]; exact ⟨4, _, rfl, by decide, rfl, rfl⟩
        · rw [a_s 3]; exact ⟨5, _, rfl, by decide, rfl, rfl⟩
        · rw [a_s 4]; exact ⟨6, _, rfl, by decide, rfl, rfl⟩
        · rw [a_s 5]; exact ⟨7, _, rfl, by decide, rfl, rfl⟩
      obtain ⟨p, c9, p1, p2, p3, p4⟩ := pos k i hc
      obtain ⟨p', c9', p1', p2', p3', p4'⟩ := pos k' i' hc'
      have hpp := hD2.1 p p' _ _ p1 p1' e
      subst hpp
      exact ⟨p3.trans p3'.symm, p4.trans p4'.symm⟩
  exact hk L [] (zgrS S j) ad' H4 _ ls hP hW' (hM.tr hM') (hE.tr hM hE') ((hS2.put z3 o3 (hW.2.2.1 19 0 (by decide) lA)).put z4 o4 (hW.2.2.1 7 0 (by decide) l7)) (hL.ext hM' hE') trivial
end
section
theorem zand3 {a b c : Bool} (h : (a && (b && c)) = true) : a = true ∧ b = true ∧ c = true := by
  obtain ⟨h1, h2⟩ := (Bool.and_eq_true _ _).mp h
  obtain ⟨h3, h4⟩ := (Bool.and_eq_true _ _).mp h2
  exact ⟨h1, h3, h4⟩
theorem z_newP_ok {X : ZX} {pc : Nat} {kk : ZP} (C : zCx X cX7_person RX7 (some .int) 7 112 3 23) (hn : X.nL = 4) (hpc : pc = 21) (hk : ZOK (zXc X (X.ce + 2) (X.sl + 17)) 53 kk) : ZOK X pc (z_newP kk) := by
  subst hpc
  intro L st S ad H locs ls hP hW hM hE hS hL hl
  obtain ⟨a, kd, q, h0, h1, h3, hst, hP2⟩ : ∃ (a : Nat × Nat) (kd : Int32) (q : Nat × Nat), znth L 0 = some (.inr (.inr (some a))) ∧ znth L 1 = some (.inl kd) ∧ znth L 3 = some (.inr (.inr (some q))) ∧ st = [] ∧ (bif Nat.beq a.1 7 && (Nat.beq a.2 0 && Nat.beq q.1 6) then vp_in (S 7 0 7) 20 ∧ kk L [] (zgrP S kd q.2) X.K else False) := by
    unfold z_newP at hP
    split at hP
    · exact ⟨_, _, _, by assumption, by assumption, by assumption, by first | rfl | assumption, hP⟩
    · exact hP.elim
  subst hst
  cases hq : Nat.beq a.1 7 && (Nat.beq a.2 0 && Nat.beq q.1 6) with
  | false => rw [hq] at hP2; exact hP2.elim
  | true =>
    rw [hq, cond_true] at hP2
    obtain ⟨b1, b2, b3⟩ := zand3 hq
    obtain ⟨a1, a2⟩ := a
    obtain ⟨q1, q2⟩ := q
    cases (Nat.eq_of_beq_eq_true b1 : a1 = 7)
    cases (Nat.eq_of_beq_eq_true b2 : a2 = 0)
    cases (Nat.eq_of_beq_eq_true b3 : q1 = 6)
    exact zgo_P C hk hP2.2 hP2.1 (hL.2.2.2 0 _ h0).1 (hL.2.2.2 1 _ h1).1 (hL.2.2.2 3 _ h3).1 (hL.2.2.2 3 _ h3).2.1 hW hM hE hS hL
theorem z_newF_ok {X : ZX} {pc : Nat} {kk : ZP} (C : zCx X cX7_farm RX7 (some .int) 7 112 2 11) (hn : X.nL = 5) (hpc : pc = 29) (hk : ZOK (zXc X (X.ce + 1) (X.sl + 5)) 59 kk) : ZOK X pc (z_newF kk) := by
  subst hpc
  intro L st S ad H locs ls hP hW hM hE hS hL hl
  obtain ⟨a, gd, qt, q, h0, h2, h3, h4, hst, hP2⟩ : ∃ (a : Nat × Nat) (gd qt : Int32) (q : Nat × Nat), znth L 0 = some (.inr (.inr (some a))) ∧ znth L 2 = some (.inl gd) ∧ znth L 3 = some (.inl qt) ∧ znth L 4 = some (.inr (.inr (some q))) ∧ st = [] ∧ (bif Nat.beq a.1 7 && (Nat.beq a.2 0 && Nat.beq q.1 0) then vp_in (S 7 0 10) 6 ∧ kk L [] (zgrF S q.2 gd qt) X.K else False) := by
    unfold z_newF at hP
    split at hP
    · exact ⟨_, _, _, _, by assumption, by assumption, by assumption, by assumption, by first | rfl | assumption, hP⟩
    · exact hP.elim
  subst hst
  cases hq : Nat.beq a.1 7 && (Nat.beq a.2 0 && Nat.beq q.1 0) with
  | false => rw [hq] at hP2; exact hP2.elim
  | true =>
    rw [hq, cond_true] at hP2
    obtain ⟨b1, b2, b3⟩ := zand3 hq
    obtain ⟨a1, a2⟩ := a
    obtain ⟨q1, q2⟩ := q
    cases (Nat.eq_of_beq_eq_true b1 : a1 = 7)
    cases (Nat.eq_of_beq_eq_true b2 : a2 = 0)
    cases (Nat.eq_of_beq_eq_true b3 : q1 = 0)
    exact zgo_F C hk hP2.2 hP2.1 (hL.2.2.2 0 _ h0).1 (hL.2.2.2 4 _ h4).1 (hL.2.2.2 2 _ h2).1 (hL.2.2.2 3 _ h3).1 (hL.2.2.2 4 _ h4).2.1 hW hM hE hS hL
theorem z_newS_ok {X : ZX} {pc : Nat} {kk : ZP} (C : zCx X cX7_shop RX7 (some .int) 7 111 9 51) (hn : X.nL = 3) (hpc : pc = 15) (hk : ZOK (zXc X (X.ce + 8) (X.sl + 45)) 46 kk) : ZOK X pc (z_newS kk) := by
  subst hpc
  intro L st S ad H locs ls hP hW hM hE hS hL hl
  obtain ⟨a, q, h0, h2, hst, hP2⟩ : ∃ (a q : Nat × Nat), znth L 0 = some (.inr (.inr (some a))) ∧ znth L 2 = some (.inr (.inr (some q))) ∧ st = [] ∧ (bif Nat.beq a.1 7 && (Nat.beq a.2 0 && Nat.beq q.1 0) then vp_in (S 7 0 9) 6 ∧ kk L [] (zgrS S q.2) X.K else False) := by
    unfold z_newS at hP
    split at hP
    · exact ⟨_, _, by assumption, by assumption, by first | rfl | assumption, hP⟩
    · exact hP.elim
  subst hst
  cases hq : Nat.beq a.1 7 && (Nat.beq a.2 0 && Nat.beq q.1 0) with
  | false => rw [hq] at hP2; exact hP2.elim
  | true =>
    rw [hq, cond_true] at hP2
    obtain ⟨b1, b2, b3⟩ := zand3 hq
    obtain ⟨a1, a2⟩ := a
    obtain ⟨q1, q2⟩ := q
    cases (Nat.eq_of_beq_eq_true b1 : a1 = 7)
    cases (Nat.eq_of_beq_eq_true b2 : a2 = 0)
    cases (Nat.eq_of_beq_eq_true b3 : q1 = 0)
    exact zgo_S C hk hP2.2 hP2.1 (hL.2.2.2 0 _ h0).1 (hL.2.2.2 2 _ h2).1 (hL.2.2.2 2 _ h2).2.1 hW hM hE hS hL
theorem z_newD_ok {X : ZX} {pc : Nat} {kk : ZP} (C : zCx X cX7_depot RX7 (some .int) 7 111 3 15) (hn : X.nL = 3) (hpc : pc = 29) (hk : ZOK (zXc X (X.ce + 2) (X.sl + 9)) 60 kk) : ZOK X pc (z_newD kk) := by
  subst hpc
  intro L st S ad H locs ls hP hW hM hE hS hL hl
  have hPP : (∃ (a : Nat × Nat), znth L 0 = some (.inr (.inr (some a))) ∧ znth L 2 = some (.inr (.inr none)) ∧ st = [] ∧ (bif Nat.beq a.1 7 && Nat.beq a.2 0 then vp_in (S 7 0 8) 6 ∧ kk L [] (zgrD S (-1)) X.K else False)) ∨ ∃ (a q : Nat × Nat), znth L 0 = some (.inr (.inr (some a))) ∧ znth L 2 = some (.inr (.inr (some q))) ∧ st = [] ∧ (bif Nat.beq a.1 7 && (Nat.beq a.2 0 && Nat.beq q.1 0) then vp_in (S 7 0 8) 6 ∧ kk L [] (zgrD S (nI q.2)) X.K else False) := by
    unfold z_newD at hP
    split at hP
    · exact Or.inl ⟨_, by assumption, by assumption, by first | rfl | assumption, hP⟩
    · exact Or.inr ⟨_, _, by assumption, by assumption, by first | rfl | assumption, hP⟩
    · exact hP.elim
  rcases hPP with ⟨a, h0, h2, hst, hP2⟩ | ⟨a, q, h0, h2, hst, hP2⟩
  · subst hst
    cases hq : Nat.beq a.1 7 && Nat.beq a.2 0 with
    | false => rw [hq] at hP2; exact hP2.elim
    | true =>
      rw [hq, cond_true] at hP2
      obtain ⟨b1, b2⟩ := (Bool.and_eq_true _ _).mp hq
      obtain ⟨a1, a2⟩ := a
      cases (Nat.eq_of_beq_eq_true b1 : a1 = 7)
      cases (Nat.eq_of_beq_eq_true b2 : a2 = 0)
      exact zgo_D (x := none) C hk hP2.2 hP2.1 (hL.2.2.2 0 _ h0).1 (hL.2.2.2 2 _ h2).1 (fun j h => (nomatch h)) (fun _ => rfl) hW hM hE hS hL
  · subst hst
    cases hq : Nat.beq a.1 7 && (Nat.beq a.2 0 && Nat.beq q.1 0) with
    | false => rw [hq] at hP2; exact hP2.elim
    | true =>
      rw [hq, cond_true] at hP2
      obtain ⟨b1, b2, b3⟩ := zand3 hq
      obtain ⟨a1, a2⟩ := a
      obtain ⟨q1, q2⟩ := q
      cases (Nat.eq_of_beq_eq_true b1 : a1 = 7)
      cases (Nat.eq_of_beq_eq_true b2 : a2 = 0)
      cases (Nat.eq_of_beq_eq_true b3 : q1 = 0)
      exact zgo_D (x := some q2) C hk hP2.2 hP2.1 (hL.2.2.2 0 _ h0).1 (hL.2.2.2 2 _ h2).1 (fun j h => by cases h; exact ⟨(hL.2.2.2 2 _ h2).2.1, rfl⟩) (fun h => (nomatch h)) hW hM hE hS hL
end
