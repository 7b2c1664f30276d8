-- ===== PART A: goes FIRST, ahead of the names: the tables' words, and 'selects' of the private methods out of them =====
/-- a private method of a class that the tables say can be made, by its rows of tables_1 -/
def lw_okq (q : MethodName × Nat) : Prop := (q.1.cls ≠ "java/lang/invoke/MethodHandle" ∧ q.1.cls ≠ "java/lang/invoke/VarHandle") ∧ Cond.instantiable q.1.cls q.2 ∈ tables_1 ∧ Cond.privateMethod q.1 ∈ tables_1 ∧ Cond.instanceMethod q.1 ∈ tables_1
theorem lw_p0 : lw_okq (⟨"BillRegistry$World", "addNumber", "(I)V"⟩, 11) := ⟨⟨by decide +kernel, by decide +kernel⟩, List.mem_of_getElem? (i := 29) (by decide +kernel), List.mem_of_getElem? (i := 398) (by decide +kernel), List.mem_of_getElem? (i := 399) (by decide +kernel)⟩
theorem lw_p1 : lw_okq (⟨"BillRegistry$Reader", "move", "()V"⟩, 10) := ⟨⟨by decide +kernel, by decide +kernel⟩, List.mem_of_getElem? (i := 293) (by decide +kernel), List.mem_of_getElem? (i := 418) (by decide +kernel), List.mem_of_getElem? (i := 419) (by decide +kernel)⟩
theorem lw_p2 : lw_okq (⟨"BillRegistry$Reader", "isLetter", "(I)Z"⟩, 10) := ⟨⟨by decide +kernel, by decide +kernel⟩, List.mem_of_getElem? (i := 293) (by decide +kernel), List.mem_of_getElem? (i := 422) (by decide +kernel), List.mem_of_getElem? (i := 423) (by decide +kernel)⟩
theorem lw_p3 : lw_okq (⟨"BillRegistry$Reader", "moveOverWord", "()V"⟩, 10) := ⟨⟨by decide +kernel, by decide +kernel⟩, List.mem_of_getElem? (i := 293) (by decide +kernel), List.mem_of_getElem? (i := 426) (by decide +kernel), List.mem_of_getElem? (i := 427) (by decide +kernel)⟩
theorem lw_p4 : lw_okq (⟨"BillRegistry$Reader", "isDigit", "(I)Z"⟩, 10) := ⟨⟨by decide +kernel, by decide +kernel⟩, List.mem_of_getElem? (i := 293) (by decide +kernel), List.mem_of_getElem? (i := 430) (by decide +kernel), List.mem_of_getElem? (i := 431) (by decide +kernel)⟩
theorem lw_p5 : lw_okq (⟨"BillRegistry$Reader", "moveOverNumber", "()V"⟩, 10) := ⟨⟨by decide +kernel, by decide +kernel⟩, List.mem_of_getElem? (i := 293) (by decide +kernel), List.mem_of_getElem? (i := 434) (by decide +kernel), List.mem_of_getElem? (i := 435) (by decide +kernel)⟩
theorem lw_p6 : lw_okq (⟨"BillRegistry$Reader", "readVerb", "()Z"⟩, 10) := ⟨⟨by decide +kernel, by decide +kernel⟩, List.mem_of_getElem? (i := 293) (by decide +kernel), List.mem_of_getElem? (i := 446) (by decide +kernel), List.mem_of_getElem? (i := 447) (by decide +kernel)⟩
theorem lw_p7 : lw_okq (⟨"BillRegistry$Reader", "isWord", "(Ljava/lang/String;)Z"⟩, 10) := ⟨⟨by decide +kernel, by decide +kernel⟩, List.mem_of_getElem? (i := 293) (by decide +kernel), List.mem_of_getElem? (i := 452) (by decide +kernel), List.mem_of_getElem? (i := 453) (by decide +kernel)⟩
theorem lw_p8 : lw_okq (⟨"BillRegistry", "reasonOfLine", "()I"⟩, 5) := ⟨⟨by decide +kernel, by decide +kernel⟩, List.mem_of_getElem? (i := 21) (by decide +kernel), List.mem_of_getElem? (i := 511) (by decide +kernel), List.mem_of_getElem? (i := 512) (by decide +kernel)⟩
theorem lw_p9 : lw_okq (⟨"BillRegistry$Chain", "own", "(II)V"⟩, 8) := ⟨⟨by decide +kernel, by decide +kernel⟩, List.mem_of_getElem? (i := 44) (by decide +kernel), List.mem_of_getElem? (i := 553) (by decide +kernel), List.mem_of_getElem? (i := 554) (by decide +kernel)⟩
theorem lw_p10 : lw_okq (⟨"BillRegistry$World", "whyNoStep", "(III)I"⟩, 11) := ⟨⟨by decide +kernel, by decide +kernel⟩, List.mem_of_getElem? (i := 29) (by decide +kernel), List.mem_of_getElem? (i := 576) (by decide +kernel), List.mem_of_getElem? (i := 577) (by decide +kernel)⟩
theorem lw_p11 : lw_okq (⟨"BillRegistry$Chain", "delivered", "(LBillRegistry$Step;)Z"⟩, 8) := ⟨⟨by decide +kernel, by decide +kernel⟩, List.mem_of_getElem? (i := 44) (by decide +kernel), List.mem_of_getElem? (i := 596) (by decide +kernel), List.mem_of_getElem? (i := 597) (by decide +kernel)⟩
theorem lw_p12 : lw_okq (⟨"BillRegistry$Chain", "endorsed", "(LBillRegistry$Step;IZ)Z"⟩, 8) := ⟨⟨by decide +kernel, by decide +kernel⟩, List.mem_of_getElem? (i := 44) (by decide +kernel), List.mem_of_getElem? (i := 600) (by decide +kernel), List.mem_of_getElem? (i := 601) (by decide +kernel)⟩
theorem lw_p13 : lw_okq (⟨"BillRegistry$Chain", "breakAt", "(II)V"⟩, 8) := ⟨⟨by decide +kernel, by decide +kernel⟩, List.mem_of_getElem? (i := 44) (by decide +kernel), List.mem_of_getElem? (i := 604) (by decide +kernel), List.mem_of_getElem? (i := 605) (by decide +kernel)⟩
theorem lw_p14 : lw_okq (⟨"BillRegistry$Chain", "give", "(LBillRegistry$Step;)V"⟩, 8) := ⟨⟨by decide +kernel, by decide +kernel⟩, List.mem_of_getElem? (i := 44) (by decide +kernel), List.mem_of_getElem? (i := 612) (by decide +kernel), List.mem_of_getElem? (i := 613) (by decide +kernel)⟩
theorem lw_p15 : lw_okq (⟨"BillRegistry$Chain", "gradeOf", "(LBillRegistry$Step;)I"⟩, 8) := ⟨⟨by decide +kernel, by decide +kernel⟩, List.mem_of_getElem? (i := 44) (by decide +kernel), List.mem_of_getElem? (i := 616) (by decide +kernel), List.mem_of_getElem? (i := 617) (by decide +kernel)⟩
def lw_privs_1 : List (MethodName × Nat) := [(⟨"BillRegistry$World", "addNumber", "(I)V"⟩, 11), (⟨"BillRegistry$Reader", "move", "()V"⟩, 10), (⟨"BillRegistry$Reader", "isLetter", "(I)Z"⟩, 10), (⟨"BillRegistry$Reader", "moveOverWord", "()V"⟩, 10), (⟨"BillRegistry$Reader", "isDigit", "(I)Z"⟩, 10), (⟨"BillRegistry$Reader", "moveOverNumber", "()V"⟩, 10), (⟨"BillRegistry$Reader", "readVerb", "()Z"⟩, 10), (⟨"BillRegistry$Reader", "isWord", "(Ljava/lang/String;)Z"⟩, 10), (⟨"BillRegistry", "reasonOfLine", "()I"⟩, 5), (⟨"BillRegistry$Chain", "own", "(II)V"⟩, 8), (⟨"BillRegistry$World", "whyNoStep", "(III)I"⟩, 11), (⟨"BillRegistry$Chain", "delivered", "(LBillRegistry$Step;)Z"⟩, 8), (⟨"BillRegistry$Chain", "endorsed", "(LBillRegistry$Step;IZ)Z"⟩, 8), (⟨"BillRegistry$Chain", "breakAt", "(II)V"⟩, 8), (⟨"BillRegistry$Chain", "give", "(LBillRegistry$Step;)V"⟩, 8), (⟨"BillRegistry$Chain", "gradeOf", "(LBillRegistry$Step;)I"⟩, 8)]
theorem lw_r1 : ∀ q ∈ lw_privs_1, lw_okq q := List.forall_mem_cons.mpr ⟨lw_p0, List.forall_mem_cons.mpr ⟨lw_p1, List.forall_mem_cons.mpr ⟨lw_p2, List.forall_mem_cons.mpr ⟨lw_p3, List.forall_mem_cons.mpr ⟨lw_p4, List.forall_mem_cons.mpr ⟨lw_p5, List.forall_mem_cons.mpr ⟨lw_p6, List.forall_mem_cons.mpr ⟨lw_p7, List.forall_mem_cons.mpr ⟨lw_p8, List.forall_mem_cons.mpr ⟨lw_p9, List.forall_mem_cons.mpr ⟨lw_p10, List.forall_mem_cons.mpr ⟨lw_p11, List.forall_mem_cons.mpr ⟨lw_p12, List.forall_mem_cons.mpr ⟨lw_p13, List.forall_mem_cons.mpr ⟨lw_p14, List.forall_mem_cons.mpr ⟨lw_p15, fun _ h => absurd h List.not_mem_nil⟩⟩⟩⟩⟩⟩⟩⟩⟩⟩⟩⟩⟩⟩⟩⟩
theorem lw_p16 : lw_okq (⟨"BillRegistry$Bill", "defenceOf", "(I)I"⟩, 19) := ⟨⟨by decide +kernel, by decide +kernel⟩, List.mem_of_getElem? (i := 36) (by decide +kernel), List.mem_of_getElem? (i := 688) (by decide +kernel), List.mem_of_getElem? (i := 689) (by decide +kernel)⟩
theorem lw_p17 : lw_okq (⟨"BillRegistryModel", "begins", "()V"⟩, 14) := ⟨⟨by decide +kernel, by decide +kernel⟩, List.mem_of_getElem? (i := 952) (by decide +kernel), List.mem_of_getElem? (i := 958) (by decide +kernel), List.mem_of_getElem? (i := 959) (by decide +kernel)⟩
theorem lw_p18 : lw_okq (⟨"BillRegistryModel", "days", "(I)I"⟩, 14) := ⟨⟨by decide +kernel, by decide +kernel⟩, List.mem_of_getElem? (i := 952) (by decide +kernel), List.mem_of_getElem? (i := 1010) (by decide +kernel), List.mem_of_getElem? (i := 1011) (by decide +kernel)⟩
theorem lw_p19 : lw_okq (⟨"BillRegistryModel", "told", "(I)I"⟩, 14) := ⟨⟨by decide +kernel, by decide +kernel⟩, List.mem_of_getElem? (i := 952) (by decide +kernel), List.mem_of_getElem? (i := 1017) (by decide +kernel), List.mem_of_getElem? (i := 1018) (by decide +kernel)⟩
theorem lw_p20 : lw_okq (⟨"BillRegistryModel", "hasNow", "(II)I"⟩, 14) := ⟨⟨by decide +kernel, by decide +kernel⟩, List.mem_of_getElem? (i := 952) (by decide +kernel), List.mem_of_getElem? (i := 1025) (by decide +kernel), List.mem_of_getElem? (i := 1026) (by decide +kernel)⟩
theorem lw_p21 : lw_okq (⟨"BillRegistryModel", "graces", "(I)I"⟩, 14) := ⟨⟨by decide +kernel, by decide +kernel⟩, List.mem_of_getElem? (i := 952) (by decide +kernel), List.mem_of_getElem? (i := 1036) (by decide +kernel), List.mem_of_getElem? (i := 1037) (by decide +kernel)⟩
theorem lw_p22 : lw_okq (⟨"BillRegistryModel", "draws", "(IIIZII)I"⟩, 14) := ⟨⟨by decide +kernel, by decide +kernel⟩, List.mem_of_getElem? (i := 952) (by decide +kernel), List.mem_of_getElem? (i := 1044) (by decide +kernel), List.mem_of_getElem? (i := 1045) (by decide +kernel)⟩
theorem lw_p23 : lw_okq (⟨"BillRegistryModel", "clears", "(I)V"⟩, 14) := ⟨⟨by decide +kernel, by decide +kernel⟩, List.mem_of_getElem? (i := 952) (by decide +kernel), List.mem_of_getElem? (i := 1054) (by decide +kernel), List.mem_of_getElem? (i := 1055) (by decide +kernel)⟩
theorem lw_p24 : lw_okq (⟨"BillRegistryModel", "startsChain", "(I)V"⟩, 14) := ⟨⟨by decide +kernel, by decide +kernel⟩, List.mem_of_getElem? (i := 952) (by decide +kernel), List.mem_of_getElem? (i := 1058) (by decide +kernel), List.mem_of_getElem? (i := 1059) (by decide +kernel)⟩
theorem lw_p25 : lw_okq (⟨"BillRegistryModel", "accepts", "(I)I"⟩, 14) := ⟨⟨by decide +kernel, by decide +kernel⟩, List.mem_of_getElem? (i := 952) (by decide +kernel), List.mem_of_getElem? (i := 1066) (by decide +kernel), List.mem_of_getElem? (i := 1067) (by decide +kernel)⟩
theorem lw_p26 : lw_okq (⟨"BillRegistryModel", "isBill", "(I)Z"⟩, 14) := ⟨⟨by decide +kernel, by decide +kernel⟩, List.mem_of_getElem? (i := 952) (by decide +kernel), List.mem_of_getElem? (i := 1070) (by decide +kernel), List.mem_of_getElem? (i := 1071) (by decide +kernel)⟩
theorem lw_p27 : lw_okq (⟨"BillRegistryModel", "passes", "(IIZIIZ)I"⟩, 14) := ⟨⟨by decide +kernel, by decide +kernel⟩, List.mem_of_getElem? (i := 952) (by decide +kernel), List.mem_of_getElem? (i := 1078) (by decide +kernel), List.mem_of_getElem? (i := 1079) (by decide +kernel)⟩
theorem lw_p28 : lw_okq (⟨"BillRegistryModel", "stepReason", "(III)I"⟩, 14) := ⟨⟨by decide +kernel, by decide +kernel⟩, List.mem_of_getElem? (i := 952) (by decide +kernel), List.mem_of_getElem? (i := 1082) (by decide +kernel), List.mem_of_getElem? (i := 1083) (by decide +kernel)⟩
theorem lw_p29 : lw_okq (⟨"BillRegistryModel", "steps", "(IIIIIIIZZ)I"⟩, 14) := ⟨⟨by decide +kernel, by decide +kernel⟩, List.mem_of_getElem? (i := 952) (by decide +kernel), List.mem_of_getElem? (i := 1086) (by decide +kernel), List.mem_of_getElem? (i := 1087) (by decide +kernel)⟩
theorem lw_p30 : lw_okq (⟨"BillRegistryModel", "goes", "(IIZ)V"⟩, 14) := ⟨⟨by decide +kernel, by decide +kernel⟩, List.mem_of_getElem? (i := 952) (by decide +kernel), List.mem_of_getElem? (i := 1093) (by decide +kernel), List.mem_of_getElem? (i := 1094) (by decide +kernel)⟩
theorem lw_p31 : lw_okq (⟨"BillRegistryModel", "gets", "(II)V"⟩, 14) := ⟨⟨by decide +kernel, by decide +kernel⟩, List.mem_of_getElem? (i := 952) (by decide +kernel), List.mem_of_getElem? (i := 1097) (by decide +kernel), List.mem_of_getElem? (i := 1098) (by decide +kernel)⟩
def lw_privs_2 : List (MethodName × Nat) := [(⟨"BillRegistry$Bill", "defenceOf", "(I)I"⟩, 19), (⟨"BillRegistryModel", "begins", "()V"⟩, 14), (⟨"BillRegistryModel", "days", "(I)I"⟩, 14), (⟨"BillRegistryModel", "told", "(I)I"⟩, 14), (⟨"BillRegistryModel", "hasNow", "(II)I"⟩, 14), (⟨"BillRegistryModel", "graces", "(I)I"⟩, 14), (⟨"BillRegistryModel", "draws", "(IIIZII)I"⟩, 14), (⟨"BillRegistryModel", "clears", "(I)V"⟩, 14), (⟨"BillRegistryModel", "startsChain", "(I)V"⟩, 14), (⟨"BillRegistryModel", "accepts", "(I)I"⟩, 14), (⟨"BillRegistryModel", "isBill", "(I)Z"⟩, 14), (⟨"BillRegistryModel", "passes", "(IIZIIZ)I"⟩, 14), (⟨"BillRegistryModel", "stepReason", "(III)I"⟩, 14), (⟨"BillRegistryModel", "steps", "(IIIIIIIZZ)I"⟩, 14), (⟨"BillRegistryModel", "goes", "(IIZ)V"⟩, 14), (⟨"BillRegistryModel", "gets", "(II)V"⟩, 14)]
theorem lw_r2 : ∀ q ∈ lw_privs_2, lw_okq q := List.forall_mem_cons.mpr ⟨lw_p16, List.forall_mem_cons.mpr ⟨lw_p17, List.forall_mem_cons.mpr ⟨lw_p18, List.forall_mem_cons.mpr ⟨lw_p19, List.forall_mem_cons.mpr ⟨lw_p20, List.forall_mem_cons.mpr ⟨lw_p21, List.forall_mem_cons.mpr ⟨lw_p22, List.forall_mem_cons.mpr ⟨lw_p23, List.forall_mem_cons.mpr ⟨lw_p24, List.forall_mem_cons.mpr ⟨lw_p25, List.forall_mem_cons.mpr ⟨lw_p26, List.forall_mem_cons.mpr ⟨lw_p27, List.forall_mem_cons.mpr ⟨lw_p28, List.forall_mem_cons.mpr ⟨lw_p29, List.forall_mem_cons.mpr ⟨lw_p30, List.forall_mem_cons.mpr ⟨lw_p31, fun _ h => absurd h List.not_mem_nil⟩⟩⟩⟩⟩⟩⟩⟩⟩⟩⟩⟩⟩⟩⟩⟩
theorem lw_p32 : lw_okq (⟨"BillRegistryModel", "owns", "(III)V"⟩, 14) := ⟨⟨by decide +kernel, by decide +kernel⟩, List.mem_of_getElem? (i := 952) (by decide +kernel), List.mem_of_getElem? (i := 1101) (by decide +kernel), List.mem_of_getElem? (i := 1102) (by decide +kernel)⟩
theorem lw_p33 : lw_okq (⟨"BillRegistryModel", "endorses", "(IIZ)V"⟩, 14) := ⟨⟨by decide +kernel, by decide +kernel⟩, List.mem_of_getElem? (i := 952) (by decide +kernel), List.mem_of_getElem? (i := 1105) (by decide +kernel), List.mem_of_getElem? (i := 1106) (by decide +kernel)⟩
theorem lw_p34 : lw_okq (⟨"BillRegistryModel", "forges", "(IIIIZ)I"⟩, 14) := ⟨⟨by decide +kernel, by decide +kernel⟩, List.mem_of_getElem? (i := 952) (by decide +kernel), List.mem_of_getElem? (i := 1113) (by decide +kernel), List.mem_of_getElem? (i := 1114) (by decide +kernel)⟩
theorem lw_p35 : lw_okq (⟨"BillRegistryModel", "finds", "(II)I"⟩, 14) := ⟨⟨by decide +kernel, by decide +kernel⟩, List.mem_of_getElem? (i := 952) (by decide +kernel), List.mem_of_getElem? (i := 1121) (by decide +kernel), List.mem_of_getElem? (i := 1122) (by decide +kernel)⟩
theorem lw_p36 : lw_okq (⟨"BillRegistryModel", "defends", "(IIZ)I"⟩, 14) := ⟨⟨by decide +kernel, by decide +kernel⟩, List.mem_of_getElem? (i := 952) (by decide +kernel), List.mem_of_getElem? (i := 1129) (by decide +kernel), List.mem_of_getElem? (i := 1130) (by decide +kernel)⟩
theorem lw_p37 : lw_okq (⟨"BillRegistryModel", "isSigned", "(II)Z"⟩, 14) := ⟨⟨by decide +kernel, by decide +kernel⟩, List.mem_of_getElem? (i := 952) (by decide +kernel), List.mem_of_getElem? (i := 1133) (by decide +kernel), List.mem_of_getElem? (i := 1134) (by decide +kernel)⟩
theorem lw_p38 : lw_okq (⟨"BillRegistryModel", "isParty", "(II)Z"⟩, 14) := ⟨⟨by decide +kernel, by decide +kernel⟩, List.mem_of_getElem? (i := 952) (by decide +kernel), List.mem_of_getElem? (i := 1137) (by decide +kernel), List.mem_of_getElem? (i := 1138) (by decide +kernel)⟩
theorem lw_p39 : lw_okq (⟨"BillRegistryModel", "hasSigned", "(II)Z"⟩, 14) := ⟨⟨by decide +kernel, by decide +kernel⟩, List.mem_of_getElem? (i := 952) (by decide +kernel), List.mem_of_getElem? (i := 1141) (by decide +kernel), List.mem_of_getElem? (i := 1142) (by decide +kernel)⟩
theorem lw_p40 : lw_okq (⟨"BillRegistryModel", "who", "(II)I"⟩, 14) := ⟨⟨by decide +kernel, by decide +kernel⟩, List.mem_of_getElem? (i := 952) (by decide +kernel), List.mem_of_getElem? (i := 1145) (by decide +kernel), List.mem_of_getElem? (i := 1146) (by decide +kernel)⟩
theorem lw_p41 : lw_okq (⟨"BillRegistryModel", "presents", "(I)I"⟩, 14) := ⟨⟨by decide +kernel, by decide +kernel⟩, List.mem_of_getElem? (i := 952) (by decide +kernel), List.mem_of_getElem? (i := 1153) (by decide +kernel), List.mem_of_getElem? (i := 1154) (by decide +kernel)⟩
theorem lw_p42 : lw_okq (⟨"BillRegistryModel", "hasTitle", "(I)Z"⟩, 14) := ⟨⟨by decide +kernel, by decide +kernel⟩, List.mem_of_getElem? (i := 952) (by decide +kernel), List.mem_of_getElem? (i := 1157) (by decide +kernel), List.mem_of_getElem? (i := 1158) (by decide +kernel)⟩
theorem lw_p43 : lw_okq (⟨"BillRegistryModel", "pays", "(III)I"⟩, 14) := ⟨⟨by decide +kernel, by decide +kernel⟩, List.mem_of_getElem? (i := 952) (by decide +kernel), List.mem_of_getElem? (i := 1161) (by decide +kernel), List.mem_of_getElem? (i := 1162) (by decide +kernel)⟩
theorem lw_p44 : lw_okq (⟨"BillRegistryModel", "reason", "(III)I"⟩, 14) := ⟨⟨by decide +kernel, by decide +kernel⟩, List.mem_of_getElem? (i := 952) (by decide +kernel), List.mem_of_getElem? (i := 1165) (by decide +kernel), List.mem_of_getElem? (i := 1166) (by decide +kernel)⟩
theorem lw_p45 : lw_okq (⟨"BillRegistryModel", "rank", "(I)I"⟩, 14) := ⟨⟨by decide +kernel, by decide +kernel⟩, List.mem_of_getElem? (i := 952) (by decide +kernel), List.mem_of_getElem? (i := 1169) (by decide +kernel), List.mem_of_getElem? (i := 1170) (by decide +kernel)⟩
theorem lw_p46 : lw_okq (⟨"BillRegistryModel", "hasCash", "(III)Z"⟩, 14) := ⟨⟨by decide +kernel, by decide +kernel⟩, List.mem_of_getElem? (i := 952) (by decide +kernel), List.mem_of_getElem? (i := 1173) (by decide +kernel), List.mem_of_getElem? (i := 1174) (by decide +kernel)⟩
theorem lw_p47 : lw_okq (⟨"BillRegistryModel", "frees", "(III)V"⟩, 14) := ⟨⟨by decide +kernel, by decide +kernel⟩, List.mem_of_getElem? (i := 952) (by decide +kernel), List.mem_of_getElem? (i := 1177) (by decide +kernel), List.mem_of_getElem? (i := 1178) (by decide +kernel)⟩
def lw_privs_3 : List (MethodName × Nat) := [(⟨"BillRegistryModel", "owns", "(III)V"⟩, 14), (⟨"BillRegistryModel", "endorses", "(IIZ)V"⟩, 14), (⟨"BillRegistryModel", "forges", "(IIIIZ)I"⟩, 14), (⟨"BillRegistryModel", "finds", "(II)I"⟩, 14), (⟨"BillRegistryModel", "defends", "(IIZ)I"⟩, 14), (⟨"BillRegistryModel", "isSigned", "(II)Z"⟩, 14), (⟨"BillRegistryModel", "isParty", "(II)Z"⟩, 14), (⟨"BillRegistryModel", "hasSigned", "(II)Z"⟩, 14), (⟨"BillRegistryModel", "who", "(II)I"⟩, 14), (⟨"BillRegistryModel", "presents", "(I)I"⟩, 14), (⟨"BillRegistryModel", "hasTitle", "(I)Z"⟩, 14), (⟨"BillRegistryModel", "pays", "(III)I"⟩, 14), (⟨"BillRegistryModel", "reason", "(III)I"⟩, 14), (⟨"BillRegistryModel", "rank", "(I)I"⟩, 14), (⟨"BillRegistryModel", "hasCash", "(III)Z"⟩, 14), (⟨"BillRegistryModel", "frees", "(III)V"⟩, 14)]
theorem lw_r3 : ∀ q ∈ lw_privs_3, lw_okq q := List.forall_mem_cons.mpr ⟨lw_p32, List.forall_mem_cons.mpr ⟨lw_p33, List.forall_mem_cons.mpr ⟨lw_p34, List.forall_mem_cons.mpr ⟨lw_p35, List.forall_mem_cons.mpr ⟨lw_p36, List.forall_mem_cons.mpr ⟨lw_p37, List.forall_mem_cons.mpr ⟨lw_p38, List.forall_mem_cons.mpr ⟨lw_p39, List.forall_mem_cons.mpr ⟨lw_p40, List.forall_mem_cons.mpr ⟨lw_p41, List.forall_mem_cons.mpr ⟨lw_p42, List.forall_mem_cons.mpr ⟨lw_p43, List.forall_mem_cons.mpr ⟨lw_p44, List.forall_mem_cons.mpr ⟨lw_p45, List.forall_mem_cons.mpr ⟨lw_p46, List.forall_mem_cons.mpr ⟨lw_p47, fun _ h => absurd h List.not_mem_nil⟩⟩⟩⟩⟩⟩⟩⟩⟩⟩⟩⟩⟩⟩⟩⟩
theorem lw_p48 : lw_okq (⟨"BillRegistryModel", "notifies", "(III)I"⟩, 14) := ⟨⟨by decide +kernel, by decide +kernel⟩, List.mem_of_getElem? (i := 952) (by decide +kernel), List.mem_of_getElem? (i := 1185) (by decide +kernel), List.mem_of_getElem? (i := 1186) (by decide +kernel)⟩
theorem lw_p49 : lw_okq (⟨"BillRegistryModel", "isInTime", "(II)Z"⟩, 14) := ⟨⟨by decide +kernel, by decide +kernel⟩, List.mem_of_getElem? (i := 952) (by decide +kernel), List.mem_of_getElem? (i := 1189) (by decide +kernel), List.mem_of_getElem? (i := 1190) (by decide +kernel)⟩
theorem lw_p50 : lw_okq (⟨"BillRegistryModel", "releases", "(II)I"⟩, 14) := ⟨⟨by decide +kernel, by decide +kernel⟩, List.mem_of_getElem? (i := 952) (by decide +kernel), List.mem_of_getElem? (i := 1197) (by decide +kernel), List.mem_of_getElem? (i := 1198) (by decide +kernel)⟩
theorem lw_p51 : lw_okq (⟨"BillRegistryModel", "paysNow", "(II)I"⟩, 14) := ⟨⟨by decide +kernel, by decide +kernel⟩, List.mem_of_getElem? (i := 952) (by decide +kernel), List.mem_of_getElem? (i := 1205) (by decide +kernel), List.mem_of_getElem? (i := 1206) (by decide +kernel)⟩
theorem lw_p52 : lw_okq (⟨"BillRegistryModel", "billsThat", "(I)I"⟩, 14) := ⟨⟨by decide +kernel, by decide +kernel⟩, List.mem_of_getElem? (i := 952) (by decide +kernel), List.mem_of_getElem? (i := 1213) (by decide +kernel), List.mem_of_getElem? (i := 1214) (by decide +kernel)⟩
theorem lw_p53 : lw_okq (⟨"BillRegistryModel", "cure", "(I)I"⟩, 14) := ⟨⟨by decide +kernel, by decide +kernel⟩, List.mem_of_getElem? (i := 952) (by decide +kernel), List.mem_of_getElem? (i := 1225) (by decide +kernel), List.mem_of_getElem? (i := 1226) (by decide +kernel)⟩
theorem lw_p54 : lw_okq (⟨"BillRegistryModel", "isCured", "(II)Z"⟩, 14) := ⟨⟨by decide +kernel, by decide +kernel⟩, List.mem_of_getElem? (i := 952) (by decide +kernel), List.mem_of_getElem? (i := 1232) (by decide +kernel), List.mem_of_getElem? (i := 1233) (by decide +kernel)⟩
theorem lw_p55 : lw_okq (⟨"BillRegistryModel", "isStep", "(II)Z"⟩, 14) := ⟨⟨by decide +kernel, by decide +kernel⟩, List.mem_of_getElem? (i := 952) (by decide +kernel), List.mem_of_getElem? (i := 1240) (by decide +kernel), List.mem_of_getElem? (i := 1241) (by decide +kernel)⟩
theorem lw_p56 : lw_okq (⟨"BillRegistryModel", "cause", "(III)I"⟩, 14) := ⟨⟨by decide +kernel, by decide +kernel⟩, List.mem_of_getElem? (i := 952) (by decide +kernel), List.mem_of_getElem? (i := 1252) (by decide +kernel), List.mem_of_getElem? (i := 1253) (by decide +kernel)⟩
theorem lw_p57 : lw_okq (⟨"BillRegistryModel", "reachOf", "(II)I"⟩, 14) := ⟨⟨by decide +kernel, by decide +kernel⟩, List.mem_of_getElem? (i := 952) (by decide +kernel), List.mem_of_getElem? (i := 1256) (by decide +kernel), List.mem_of_getElem? (i := 1257) (by decide +kernel)⟩
theorem lw_p58 : lw_okq (⟨"BillRegistryModel", "liableBits", "(II)I"⟩, 14) := ⟨⟨by decide +kernel, by decide +kernel⟩, List.mem_of_getElem? (i := 952) (by decide +kernel), List.mem_of_getElem? (i := 1264) (by decide +kernel), List.mem_of_getElem? (i := 1265) (by decide +kernel)⟩
theorem lw_p59 : lw_okq (⟨"BillRegistryModel", "runs", "(I)I"⟩, 14) := ⟨⟨by decide +kernel, by decide +kernel⟩, List.mem_of_getElem? (i := 952) (by decide +kernel), List.mem_of_getElem? (i := 1276) (by decide +kernel), List.mem_of_getElem? (i := 1277) (by decide +kernel)⟩
theorem lw_p60 : lw_okq (⟨"BillRegistryModel", "copies", "(II)V"⟩, 14) := ⟨⟨by decide +kernel, by decide +kernel⟩, List.mem_of_getElem? (i := 952) (by decide +kernel), List.mem_of_getElem? (i := 1280) (by decide +kernel), List.mem_of_getElem? (i := 1281) (by decide +kernel)⟩
theorem lw_p61 : lw_okq (⟨"BillRegistryModel", "payer", "(II)I"⟩, 14) := ⟨⟨by decide +kernel, by decide +kernel⟩, List.mem_of_getElem? (i := 952) (by decide +kernel), List.mem_of_getElem? (i := 1284) (by decide +kernel), List.mem_of_getElem? (i := 1285) (by decide +kernel)⟩
theorem lw_p62 : lw_okq (⟨"BillRegistryModel", "takes", "()V"⟩, 14) := ⟨⟨by decide +kernel, by decide +kernel⟩, List.mem_of_getElem? (i := 952) (by decide +kernel), List.mem_of_getElem? (i := 1324) (by decide +kernel), List.mem_of_getElem? (i := 1325) (by decide +kernel)⟩
theorem lw_p63 : lw_okq (⟨"BillRegistryModel", "byteAt", "(I)I"⟩, 14) := ⟨⟨by decide +kernel, by decide +kernel⟩, List.mem_of_getElem? (i := 952) (by decide +kernel), List.mem_of_getElem? (i := 1328) (by decide +kernel), List.mem_of_getElem? (i := 1329) (by decide +kernel)⟩
def lw_privs_4 : List (MethodName × Nat) := [(⟨"BillRegistryModel", "notifies", "(III)I"⟩, 14), (⟨"BillRegistryModel", "isInTime", "(II)Z"⟩, 14), (⟨"BillRegistryModel", "releases", "(II)I"⟩, 14), (⟨"BillRegistryModel", "paysNow", "(II)I"⟩, 14), (⟨"BillRegistryModel", "billsThat", "(I)I"⟩, 14), (⟨"BillRegistryModel", "cure", "(I)I"⟩, 14), (⟨"BillRegistryModel", "isCured", "(II)Z"⟩, 14), (⟨"BillRegistryModel", "isStep", "(II)Z"⟩, 14), (⟨"BillRegistryModel", "cause", "(III)I"⟩, 14), (⟨"BillRegistryModel", "reachOf", "(II)I"⟩, 14), (⟨"BillRegistryModel", "liableBits", "(II)I"⟩, 14), (⟨"BillRegistryModel", "runs", "(I)I"⟩, 14), (⟨"BillRegistryModel", "copies", "(II)V"⟩, 14), (⟨"BillRegistryModel", "payer", "(II)I"⟩, 14), (⟨"BillRegistryModel", "takes", "()V"⟩, 14), (⟨"BillRegistryModel", "byteAt", "(I)I"⟩, 14)]
theorem lw_r4 : ∀ q ∈ lw_privs_4, lw_okq q := List.forall_mem_cons.mpr ⟨lw_p48, List.forall_mem_cons.mpr ⟨lw_p49, List.forall_mem_cons.mpr ⟨lw_p50, List.forall_mem_cons.mpr ⟨lw_p51, List.forall_mem_cons.mpr ⟨lw_p52, List.forall_mem_cons.mpr ⟨lw_p53, List.forall_mem_cons.mpr ⟨lw_p54, List.forall_mem_cons.mpr ⟨lw_p55, List.forall_mem_cons.mpr ⟨lw_p56, List.forall_mem_cons.mpr ⟨lw_p57, List.forall_mem_cons.mpr ⟨lw_p58, List.forall_mem_cons.mpr ⟨lw_p59, List.forall_mem_cons.mpr ⟨lw_p60, List.forall_mem_cons.mpr ⟨lw_p61, List.forall_mem_cons.mpr ⟨lw_p62, List.forall_mem_cons.mpr ⟨lw_p63, fun _ h => absurd h List.not_mem_nil⟩⟩⟩⟩⟩⟩⟩⟩⟩⟩⟩⟩⟩⟩⟩⟩
theorem lw_p64 : lw_okq (⟨"BillRegistryModel", "readsLine", "()V"⟩, 14) := ⟨⟨by decide +kernel, by decide +kernel⟩, List.mem_of_getElem? (i := 952) (by decide +kernel), List.mem_of_getElem? (i := 1342) (by decide +kernel), List.mem_of_getElem? (i := 1343) (by decide +kernel)⟩
theorem lw_p65 : lw_okq (⟨"BillRegistryModel", "isLine", "(JII)Z"⟩, 14) := ⟨⟨by decide +kernel, by decide +kernel⟩, List.mem_of_getElem? (i := 952) (by decide +kernel), List.mem_of_getElem? (i := 1350) (by decide +kernel), List.mem_of_getElem? (i := 1351) (by decide +kernel)⟩
theorem lw_p66 : lw_okq (⟨"BillRegistryModel", "hasWord", "(J)Z"⟩, 14) := ⟨⟨by decide +kernel, by decide +kernel⟩, List.mem_of_getElem? (i := 952) (by decide +kernel), List.mem_of_getElem? (i := 1354) (by decide +kernel), List.mem_of_getElem? (i := 1355) (by decide +kernel)⟩
theorem lw_p67 : lw_okq (⟨"BillRegistryModel", "fails", "()V"⟩, 14) := ⟨⟨by decide +kernel, by decide +kernel⟩, List.mem_of_getElem? (i := 952) (by decide +kernel), List.mem_of_getElem? (i := 1358) (by decide +kernel), List.mem_of_getElem? (i := 1359) (by decide +kernel)⟩
theorem lw_p68 : lw_okq (⟨"BillRegistryModel", "done", "(I)I"⟩, 14) := ⟨⟨by decide +kernel, by decide +kernel⟩, List.mem_of_getElem? (i := 952) (by decide +kernel), List.mem_of_getElem? (i := 1364) (by decide +kernel), List.mem_of_getElem? (i := 1365) (by decide +kernel)⟩
def lw_privs_5 : List (MethodName × Nat) := [(⟨"BillRegistryModel", "readsLine", "()V"⟩, 14), (⟨"BillRegistryModel", "isLine", "(JII)Z"⟩, 14), (⟨"BillRegistryModel", "hasWord", "(J)Z"⟩, 14), (⟨"BillRegistryModel", "fails", "()V"⟩, 14), (⟨"BillRegistryModel", "done", "(I)I"⟩, 14)]
theorem lw_r5 : ∀ q ∈ lw_privs_5, lw_okq q := List.forall_mem_cons.mpr ⟨lw_p64, List.forall_mem_cons.mpr ⟨lw_p65, List.forall_mem_cons.mpr ⟨lw_p66, List.forall_mem_cons.mpr ⟨lw_p67, List.forall_mem_cons.mpr ⟨lw_p68, fun _ h => absurd h List.not_mem_nil⟩⟩⟩⟩⟩
def lw_privs : List (MethodName × Nat) := lw_privs_1 ++ (lw_privs_2 ++ (lw_privs_3 ++ (lw_privs_4 ++ (lw_privs_5))))
def lw_tbl : List Cond := k2_sels lw_privs ++ tables_1
theorem lw_privs_ok : ∀ q ∈ lw_privs, lw_okq q := by
  show ∀ q ∈ lw_privs_1 ++ (lw_privs_2 ++ (lw_privs_3 ++ (lw_privs_4 ++ (lw_privs_5)))), lw_okq q
  exact List.forall_mem_append.mpr ⟨lw_r1, List.forall_mem_append.mpr ⟨lw_r2, List.forall_mem_append.mpr ⟨lw_r3, List.forall_mem_append.mpr ⟨lw_r4, lw_r5⟩⟩⟩⟩
-- names, as printed
def RX0 : String := "BillRegistry$1"
def TX0 : u_T := fun k => match k with
  | _ => ("", "", "", false)
def tyX0 : Nat → FieldType := fun k => match k with
  | _ => .int
theorem nmX0 : ∀ a, a < 0 → ∀ b, b < 0 → a ≠ b → (TX0 a).2.1 ≠ (TX0 b).2.1 := by decide +kernel
theorem tyX0_ok : ∀ k, k < 0 → parseFieldDescriptor (TX0 k).2.2.1 = some (tyX0 k) := by decide +kernel
def RX1 : String := "BillRegistry$Bill"
def TX1 : u_T := fun k => match k with
  | 0 => ("BillRegistry$Bill", "drawer", "I", false)
  | 1 => ("BillRegistry$Bill", "drawee", "I", false)
  | 2 => ("BillRegistry$Bill", "payee", "I", false)
  | 3 => ("BillRegistry$Bill", "sum", "I", false)
  | 4 => ("BillRegistry$Bill", "due", "I", false)
  | 5 => ("BillRegistry$Bill", "hand", "I", false)
  | 6 => ("BillRegistry$Bill", "dishonour", "I", false)
  | 7 => ("BillRegistry$Bill", "stepCount", "I", false)
  | 8 => ("BillRegistry$Bill", "startStep", "I", false)
  | 9 => ("BillRegistry$Bill", "open", "Z", false)
  | 10 => ("BillRegistry$Bill", "accepted", "Z", false)
  | 11 => ("BillRegistry$Bill", "done", "Z", false)
  | 12 => ("BillRegistry$Bill", "steps", "[LBillRegistry$Step;", true)
  | 13 => ("BillRegistry$Bill", "chain", "LBillRegistry$Chain;", true)
  | 14 => ("BillRegistry$Bill", "start", "LBillRegistry$Chain;", true)
  | 15 => ("BillRegistry$Bill", "notified", "[I", true)
  | 16 => ("BillRegistry$Bill", "freedOf", "[I", true)
  | 17 => ("BillRegistry$Bill", "freedBy", "[I", true)
  | _ => ("BillRegistry$Bill", "defences", "[I", true)
def tyX1 : Nat → FieldType := fun k => match k with
  | 0 => .int
  | 1 => .int
  | 2 => .int
  | 3 => .int
  | 4 => .int
  | 5 => .int
  | 6 => .int
  | 7 => .int
  | 8 => .int
  | 9 => .boolean
  | 10 => .boolean
  | 11 => .boolean
  | 12 => .array (.object "BillRegistry$Step")
  | 13 => .object "BillRegistry$Chain"
  | 14 => .object "BillRegistry$Chain"
  | 15 => .array .int
  | 16 => .array .int
  | 17 => .array .int
  | _ => .array .int
theorem nmX1 : ∀ a, a < 19 → ∀ b, b < 19 → a ≠ b → (TX1 a).2.1 ≠ (TX1 b).2.1 := by decide +kernel
theorem tyX1_ok : ∀ k, k < 19 → parseFieldDescriptor (TX1 k).2.2.1 = some (tyX1 k) := by decide +kernel
abbrev cX1_init : ByteArray := prog_3_method_1_code
def yX1_init : MethodName := ⟨RX1, "<init>", "()V"⟩
abbrev cX1_begin : ByteArray := prog_3_method_2_code
def yX1_begin : MethodName := ⟨RX1, "begin", "(IIIZ)V"⟩
abbrev cX1_copy : ByteArray := prog_3_method_3_code
def yX1_copy : MethodName := ⟨RX1, "copy", "(LBillRegistry$Bill;)V"⟩
abbrev cX1_parties : ByteArray := prog_3_method_4_code
def yX1_parties : MethodName := ⟨RX1, "parties", "()I"⟩
abbrev cX1_hasStep : ByteArray := prog_3_method_5_code
def yX1_hasStep : MethodName := ⟨RX1, "hasStep", "(I)Z"⟩
abbrev cX1_who : ByteArray := prog_3_method_6_code
def yX1_who : MethodName := ⟨RX1, "who", "(I)I"⟩
abbrev cX1_signed : ByteArray := prog_3_method_7_code
def yX1_signed : MethodName := ⟨RX1, "signed", "(I)Z"⟩
abbrev cX1_forgedAt : ByteArray := prog_3_method_8_code
def yX1_forgedAt : MethodName := ⟨RX1, "forgedAt", "(I)Z"⟩
abbrev cX1_hasTitle : ByteArray := prog_3_method_9_code
def yX1_hasTitle : MethodName := ⟨RX1, "hasTitle", "()Z"⟩
abbrev cX1_rank : ByteArray := prog_3_method_10_code
def yX1_rank : MethodName := ⟨RX1, "rank", "()I"⟩
abbrev cX1_whyNoStep : ByteArray := prog_3_method_11_code
def yX1_whyNoStep : MethodName := ⟨RX1, "whyNoStep", "(I)I"⟩
abbrev cX1_newStep : ByteArray := prog_3_method_12_code
def yX1_newStep : MethodName := ⟨RX1, "newStep", "(IIII)LBillRegistry$Step;"⟩
abbrev cX1_addStep : ByteArray := prog_3_method_13_code
def yX1_addStep : MethodName := ⟨RX1, "addStep", "(LBillRegistry$Step;)V"⟩
abbrev cX1_free : ByteArray := prog_3_method_14_code
def yX1_free : MethodName := ⟨RX1, "free", "(II)V"⟩
abbrev cX1_whyNot : ByteArray := prog_3_method_15_code
def yX1_whyNot : MethodName := ⟨RX1, "whyNot", "(II)I"⟩
abbrev cX1_comesOf : ByteArray := prog_3_method_16_code
def yX1_comesOf : MethodName := ⟨RX1, "comesOf", "(IIII)I"⟩
abbrev cX1_placeOf : ByteArray := prog_3_method_17_code
def yX1_placeOf : MethodName := ⟨RX1, "placeOf", "(II)I"⟩
abbrev cX1_defenceOf : ByteArray := prog_3_method_18_code
def yX1_defenceOf : MethodName := ⟨RX1, "defenceOf", "(I)I"⟩
abbrev cX1_canTell : ByteArray := prog_3_method_19_code
def yX1_canTell : MethodName := ⟨RX1, "canTell", "(III)Z"⟩
abbrev cX1_lastDayToTell : ByteArray := prog_3_method_20_code
def yX1_lastDayToTell : MethodName := ⟨RX1, "lastDayToTell", "(II)I"⟩
abbrev cX1_inReach : ByteArray := prog_3_method_21_code
def yX1_inReach : MethodName := ⟨RX1, "inReach", "(III)Z"⟩
abbrev cX1_binds : ByteArray := prog_3_method_22_code
def yX1_binds : MethodName := ⟨RX1, "binds", "(II)Z"⟩
abbrev cX1_hasCash : ByteArray := prog_3_method_23_code
def yX1_hasCash : MethodName := ⟨RX1, "hasCash", "(I[I)Z"⟩
abbrev cX1_greatestPayer : ByteArray := prog_3_method_24_code
def yX1_greatestPayer : MethodName := ⟨RX1, "greatestPayer", "([II)I"⟩
abbrev cX1_settle : ByteArray := prog_3_method_25_code
def yX1_settle : MethodName := ⟨RX1, "settle", "(I[I)V"⟩
def RX2 : String := "BillRegistry$Chain"
def TX2 : u_T := fun k => match k with
  | 0 => ("BillRegistry$Chain", "payable", "I", false)
  | 1 => ("BillRegistry$Chain", "whom", "I", false)
  | 2 => ("BillRegistry$Chain", "owner", "I", false)
  | 3 => ("BillRegistry$Chain", "grade", "I", false)
  | 4 => ("BillRegistry$Chain", "brokenAt", "I", false)
  | 5 => ("BillRegistry$Chain", "brokenOf", "I", false)
  | 6 => ("BillRegistry$Chain", "loose", "Z", false)
  | _ => ("BillRegistry$Chain", "firstGrades", "[I", true)
def tyX2 : Nat → FieldType := fun k => match k with
  | 0 => .int
  | 1 => .int
  | 2 => .int
  | 3 => .int
  | 4 => .int
  | 5 => .int
  | 6 => .boolean
  | _ => .array .int
theorem nmX2 : ∀ a, a < 8 → ∀ b, b < 8 → a ≠ b → (TX2 a).2.1 ≠ (TX2 b).2.1 := by decide +kernel
theorem tyX2_ok : ∀ k, k < 8 → parseFieldDescriptor (TX2 k).2.2.1 = some (tyX2 k) := by decide +kernel
abbrev cX2_init : ByteArray := prog_4_method_1_code
def yX2_init : MethodName := ⟨RX2, "<init>", "()V"⟩
abbrev cX2_begin : ByteArray := prog_4_method_2_code
def yX2_begin : MethodName := ⟨RX2, "begin", "(IZ)V"⟩
abbrev cX2_takeUp : ByteArray := prog_4_method_3_code
def yX2_takeUp : MethodName := ⟨RX2, "takeUp", "(I)V"⟩
abbrev cX2_follow : ByteArray := prog_4_method_4_code
def yX2_follow : MethodName := ⟨RX2, "follow", "(LBillRegistry$Step;IZ)V"⟩
abbrev cX2_entitles : ByteArray := prog_4_method_5_code
def yX2_entitles : MethodName := ⟨RX2, "entitles", "(I)Z"⟩
abbrev cX2_copy : ByteArray := prog_4_method_6_code
def yX2_copy : MethodName := ⟨RX2, "copy", "(LBillRegistry$Chain;)V"⟩
abbrev cX2_delivered : ByteArray := prog_4_method_7_code
def yX2_delivered : MethodName := ⟨RX2, "delivered", "(LBillRegistry$Step;)Z"⟩
abbrev cX2_endorsed : ByteArray := prog_4_method_8_code
def yX2_endorsed : MethodName := ⟨RX2, "endorsed", "(LBillRegistry$Step;IZ)Z"⟩
abbrev cX2_breakAt : ByteArray := prog_4_method_9_code
def yX2_breakAt : MethodName := ⟨RX2, "breakAt", "(II)V"⟩
abbrev cX2_give : ByteArray := prog_4_method_10_code
def yX2_give : MethodName := ⟨RX2, "give", "(LBillRegistry$Step;)V"⟩
abbrev cX2_gradeOf : ByteArray := prog_4_method_11_code
def yX2_gradeOf : MethodName := ⟨RX2, "gradeOf", "(LBillRegistry$Step;)I"⟩
abbrev cX2_own : ByteArray := prog_4_method_12_code
def yX2_own : MethodName := ⟨RX2, "own", "(II)V"⟩
def RX3 : String := "BillRegistry$Cure"
def TX3 : u_T := fun k => match k with
  | _ => ("BillRegistry$Cure", "trials", "[LBillRegistry$Chain;", true)
def tyX3 : Nat → FieldType := fun k => match k with
  | _ => .array (.object "BillRegistry$Chain")
theorem nmX3 : ∀ a, a < 1 → ∀ b, b < 1 → a ≠ b → (TX3 a).2.1 ≠ (TX3 b).2.1 := by decide +kernel
theorem tyX3_ok : ∀ k, k < 1 → parseFieldDescriptor (TX3 k).2.2.1 = some (tyX3 k) := by decide +kernel
abbrev cX3_init : ByteArray := prog_5_method_1_code
def yX3_init : MethodName := ⟨RX3, "<init>", "()V"⟩
abbrev cX3_fewest : ByteArray := prog_5_method_2_code
def yX3_fewest : MethodName := ⟨RX3, "fewest", "(LBillRegistry$Bill;)I"⟩
abbrev cX3_fewestFrom : ByteArray := prog_5_method_3_code
def yX3_fewestFrom : MethodName := ⟨RX3, "fewestFrom", "(LBillRegistry$Bill;[LBillRegistry$Chain;I)I"⟩
def RX4 : String := "BillRegistry$Reader"
def TX4 : u_T := fun k => match k with
  | 0 => ("BillRegistry$Reader", "numbers", "[I", true)
  | 1 => ("BillRegistry$Reader", "verb", "LBillRegistry$Verb;", false)
  | 2 => ("BillRegistry$Reader", "notice", "Z", false)
  | 3 => ("BillRegistry$Reader", "without", "Z", false)
  | 4 => ("BillRegistry$Reader", "bytes", "[B", false)
  | 5 => ("BillRegistry$Reader", "length", "I", false)
  | 6 => ("BillRegistry$Reader", "kind", "I", false)
  | 7 => ("BillRegistry$Reader", "place", "I", false)
  | 8 => ("BillRegistry$Reader", "behind", "I", false)
  | _ => ("BillRegistry$Reader", "value", "I", false)
def tyX4 : Nat → FieldType := fun k => match k with
  | 0 => .array .int
  | 1 => .object "BillRegistry$Verb"
  | 2 => .boolean
  | 3 => .boolean
  | 4 => .array .byte
  | 5 => .int
  | 6 => .int
  | 7 => .int
  | 8 => .int
  | _ => .int
theorem nmX4 : ∀ a, a < 10 → ∀ b, b < 10 → a ≠ b → (TX4 a).2.1 ≠ (TX4 b).2.1 := by decide +kernel
theorem tyX4_ok : ∀ k, k < 10 → parseFieldDescriptor (TX4 k).2.2.1 = some (tyX4 k) := by decide +kernel
abbrev cX4_init : ByteArray := prog_6_method_1_code
def yX4_init : MethodName := ⟨RX4, "<init>", "()V"⟩
abbrev cX4_open : ByteArray := prog_6_method_2_code
def yX4_open : MethodName := ⟨RX4, "open", "([BI)V"⟩
abbrev cX4_atEnd : ByteArray := prog_6_method_3_code
def yX4_atEnd : MethodName := ⟨RX4, "atEnd", "()Z"⟩
abbrev cX4_faultPlace : ByteArray := prog_6_method_4_code
def yX4_faultPlace : MethodName := ⟨RX4, "faultPlace", "()I"⟩
abbrev cX4_readLine : ByteArray := prog_6_method_5_code
def yX4_readLine : MethodName := ⟨RX4, "readLine", "()Z"⟩
abbrev cX4_readVerb : ByteArray := prog_6_method_6_code
def yX4_readVerb : MethodName := ⟨RX4, "readVerb", "()Z"⟩
abbrev cX4_isWord : ByteArray := prog_6_method_7_code
def yX4_isWord : MethodName := ⟨RX4, "isWord", "(Ljava/lang/String;)Z"⟩
abbrev cX4_move : ByteArray := prog_6_method_8_code
def yX4_move : MethodName := ⟨RX4, "move", "()V"⟩
abbrev cX4_moveOverWord : ByteArray := prog_6_method_9_code
def yX4_moveOverWord : MethodName := ⟨RX4, "moveOverWord", "()V"⟩
abbrev cX4_moveOverNumber : ByteArray := prog_6_method_10_code
def yX4_moveOverNumber : MethodName := ⟨RX4, "moveOverNumber", "()V"⟩
abbrev cX4_isLetter : ByteArray := prog_6_method_11_code
def yX4_isLetter : MethodName := ⟨RX4, "isLetter", "(I)Z"⟩
abbrev cX4_isDigit : ByteArray := prog_6_method_12_code
def yX4_isDigit : MethodName := ⟨RX4, "isDigit", "(I)Z"⟩
def RX5 : String := "BillRegistry$Recourse"
def TX5 : u_T := fun k => match k with
  | 0 => ("BillRegistry$Recourse", "bill", "LBillRegistry$Bill;", true)
  | 1 => ("BillRegistry$Recourse", "cash", "[I", true)
  | 2 => ("BillRegistry$Recourse", "payers", "[I", true)
  | _ => ("BillRegistry$Recourse", "payments", "I", false)
def tyX5 : Nat → FieldType := fun k => match k with
  | 0 => .object "BillRegistry$Bill"
  | 1 => .array .int
  | 2 => .array .int
  | _ => .int
theorem nmX5 : ∀ a, a < 4 → ∀ b, b < 4 → a ≠ b → (TX5 a).2.1 ≠ (TX5 b).2.1 := by decide +kernel
theorem tyX5_ok : ∀ k, k < 4 → parseFieldDescriptor (TX5 k).2.2.1 = some (tyX5 k) := by decide +kernel
abbrev cX5_init : ByteArray := prog_7_method_1_code
def yX5_init : MethodName := ⟨RX5, "<init>", "()V"⟩
abbrev cX5_play : ByteArray := prog_7_method_2_code
def yX5_play : MethodName := ⟨RX5, "play", "(LBillRegistry$Bill;[II)V"⟩
def RX6 : String := "BillRegistry$Step"
def TX6 : u_T := fun k => match k with
  | 0 => ("BillRegistry$Step", "sort", "I", false)
  | 1 => ("BillRegistry$Step", "by", "I", false)
  | 2 => ("BillRegistry$Step", "name", "I", false)
  | 3 => ("BillRegistry$Step", "to", "I", false)
  | 4 => ("BillRegistry$Step", "value", "I", false)
  | 5 => ("BillRegistry$Step", "day", "I", false)
  | 6 => ("BillRegistry$Step", "owner", "I", false)
  | 7 => ("BillRegistry$Step", "grade", "I", false)
  | 8 => ("BillRegistry$Step", "notice", "Z", false)
  | 9 => ("BillRegistry$Step", "without", "Z", false)
  | _ => ("BillRegistry$Step", "inDueCourse", "Z", false)
def tyX6 : Nat → FieldType := fun k => match k with
  | 0 => .int
  | 1 => .int
  | 2 => .int
  | 3 => .int
  | 4 => .int
  | 5 => .int
  | 6 => .int
  | 7 => .int
  | 8 => .boolean
  | 9 => .boolean
  | _ => .boolean
theorem nmX6 : ∀ a, a < 11 → ∀ b, b < 11 → a ≠ b → (TX6 a).2.1 ≠ (TX6 b).2.1 := by decide +kernel
theorem tyX6_ok : ∀ k, k < 11 → parseFieldDescriptor (TX6 k).2.2.1 = some (tyX6 k) := by decide +kernel
abbrev cX6_init : ByteArray := prog_8_method_1_code
def yX6_init : MethodName := ⟨RX6, "<init>", "()V"⟩
abbrev cX6_forged : ByteArray := prog_8_method_2_code
def yX6_forged : MethodName := ⟨RX6, "forged", "()Z"⟩
abbrev cX6_signed : ByteArray := prog_8_method_3_code
def yX6_signed : MethodName := ⟨RX6, "signed", "()Z"⟩
abbrev cX6_copy : ByteArray := prog_8_method_4_code
def yX6_copy : MethodName := ⟨RX6, "copy", "(LBillRegistry$Step;)V"⟩
def RX7 : String := "BillRegistry$Verb"
def TX7 : u_T := fun k => match k with
  | _ => ("", "", "", false)
def tyX7 : Nat → FieldType := fun k => match k with
  | _ => .int
theorem nmX7 : ∀ a, a < 0 → ∀ b, b < 0 → a ≠ b → (TX7 a).2.1 ≠ (TX7 b).2.1 := by decide +kernel
theorem tyX7_ok : ∀ k, k < 0 → parseFieldDescriptor (TX7 k).2.2.1 = some (tyX7 k) := by decide +kernel
def RX8 : String := "BillRegistry$World"
def TX8 : u_T := fun k => match k with
  | 0 => ("BillRegistry$World", "today", "I", false)
  | 1 => ("BillRegistry$World", "graceDays", "I", false)
  | 2 => ("BillRegistry$World", "billCount", "I", false)
  | 3 => ("BillRegistry$World", "payments", "I", false)
  | 4 => ("BillRegistry$World", "refusals", "I", false)
  | 5 => ("BillRegistry$World", "latest", "I", false)
  | 6 => ("BillRegistry$World", "tapeLength", "I", false)
  | 7 => ("BillRegistry$World", "faultPlace", "I", false)
  | 8 => ("BillRegistry$World", "cash", "[I", true)
  | 9 => ("BillRegistry$World", "bills", "[LBillRegistry$Bill;", true)
  | _ => ("BillRegistry$World", "tape", "[B", true)
def tyX8 : Nat → FieldType := fun k => match k with
  | 0 => .int
  | 1 => .int
  | 2 => .int
  | 3 => .int
  | 4 => .int
  | 5 => .int
  | 6 => .int
  | 7 => .int
  | 8 => .array .int
  | 9 => .array (.object "BillRegistry$Bill")
  | _ => .array .byte
theorem nmX8 : ∀ a, a < 11 → ∀ b, b < 11 → a ≠ b → (TX8 a).2.1 ≠ (TX8 b).2.1 := by decide +kernel
theorem tyX8_ok : ∀ k, k < 11 → parseFieldDescriptor (TX8 k).2.2.1 = some (tyX8 k) := by decide +kernel
abbrev cX8_init : ByteArray := prog_10_method_1_code
def yX8_init : MethodName := ⟨RX8, "<init>", "()V"⟩
abbrev cX8_begin : ByteArray := prog_10_method_2_code
def yX8_begin : MethodName := ⟨RX8, "begin", "()V"⟩
abbrev cX8_copy : ByteArray := prog_10_method_3_code
def yX8_copy : MethodName := ⟨RX8, "copy", "(LBillRegistry$World;)V"⟩
abbrev cX8_addBytes : ByteArray := prog_10_method_4_code
def yX8_addBytes : MethodName := ⟨RX8, "addBytes", "(IIIII)I"⟩
abbrev cX8_addNumber : ByteArray := prog_10_method_5_code
def yX8_addNumber : MethodName := ⟨RX8, "addNumber", "(I)V"⟩
abbrev cX8_note : ByteArray := prog_10_method_6_code
def yX8_note : MethodName := ⟨RX8, "note", "(I)I"⟩
abbrev cX8_hasBill : ByteArray := prog_10_method_7_code
def yX8_hasBill : MethodName := ⟨RX8, "hasBill", "(I)Z"⟩
abbrev cX8_hasParty : ByteArray := prog_10_method_8_code
def yX8_hasParty : MethodName := ⟨RX8, "hasParty", "(II)Z"⟩
abbrev cX8_hasSigner : ByteArray := prog_10_method_9_code
def yX8_hasSigner : MethodName := ⟨RX8, "hasSigner", "(II)Z"⟩
abbrev cX8_cashOfAll : ByteArray := prog_10_method_10_code
def yX8_cashOfAll : MethodName := ⟨RX8, "cashOfAll", "()I"⟩
abbrev cX8_dishonouredBills : ByteArray := prog_10_method_11_code
def yX8_dishonouredBills : MethodName := ⟨RX8, "dishonouredBills", "()I"⟩
abbrev cX8_doneBills : ByteArray := prog_10_method_12_code
def yX8_doneBills : MethodName := ⟨RX8, "doneBills", "()I"⟩
abbrev cX8_goOn : ByteArray := prog_10_method_13_code
def yX8_goOn : MethodName := ⟨RX8, "goOn", "(I)I"⟩
abbrev cX8_setCash : ByteArray := prog_10_method_14_code
def yX8_setCash : MethodName := ⟨RX8, "setCash", "(II)I"⟩
abbrev cX8_setGrace : ByteArray := prog_10_method_15_code
def yX8_setGrace : MethodName := ⟨RX8, "setGrace", "(I)I"⟩
abbrev cX8_drawOne : ByteArray := prog_10_method_16_code
def yX8_drawOne : MethodName := ⟨RX8, "drawOne", "(IIIIIZ)I"⟩
abbrev cX8_acceptOne : ByteArray := prog_10_method_17_code
def yX8_acceptOne : MethodName := ⟨RX8, "acceptOne", "(I)I"⟩
abbrev cX8_passOn : ByteArray := prog_10_method_18_code
def yX8_passOn : MethodName := ⟨RX8, "passOn", "(IIIIZZ)I"⟩
abbrev cX8_passForged : ByteArray := prog_10_method_19_code
def yX8_passForged : MethodName := ⟨RX8, "passForged", "(IIIIZ)I"⟩
abbrev cX8_findOne : ByteArray := prog_10_method_20_code
def yX8_findOne : MethodName := ⟨RX8, "findOne", "(II)I"⟩
abbrev cX8_whyNoStep : ByteArray := prog_10_method_21_code
def yX8_whyNoStep : MethodName := ⟨RX8, "whyNoStep", "(III)I"⟩
abbrev cX8_giveDefence : ByteArray := prog_10_method_22_code
def yX8_giveDefence : MethodName := ⟨RX8, "giveDefence", "(IIZ)I"⟩
abbrev cX8_presentOne : ByteArray := prog_10_method_23_code
def yX8_presentOne : MethodName := ⟨RX8, "presentOne", "(I)I"⟩
abbrev cX8_giveNotice : ByteArray := prog_10_method_24_code
def yX8_giveNotice : MethodName := ⟨RX8, "giveNotice", "(III)I"⟩
abbrev cX8_releaseOne : ByteArray := prog_10_method_25_code
def yX8_releaseOne : MethodName := ⟨RX8, "releaseOne", "(II)I"⟩
abbrev cX8_payOne : ByteArray := prog_10_method_26_code
def yX8_payOne : MethodName := ⟨RX8, "payOne", "(II)I"⟩
def RX9 : String := "BillRegistry"
def TX9 : u_T := fun k => match k with
  | 0 => ("BillRegistry", "now", "LBillRegistry$World;", true)
  | 1 => ("BillRegistry", "images", "[LBillRegistry$World;", true)
  | 2 => ("BillRegistry", "reader", "LBillRegistry$Reader;", true)
  | 3 => ("BillRegistry", "recourse", "LBillRegistry$Recourse;", true)
  | _ => ("BillRegistry", "cure", "LBillRegistry$Cure;", true)
def tyX9 : Nat → FieldType := fun k => match k with
  | 0 => .object "BillRegistry$World"
  | 1 => .array (.object "BillRegistry$World")
  | 2 => .object "BillRegistry$Reader"
  | 3 => .object "BillRegistry$Recourse"
  | _ => .object "BillRegistry$Cure"
theorem nmX9 : ∀ a, a < 5 → ∀ b, b < 5 → a ≠ b → (TX9 a).2.1 ≠ (TX9 b).2.1 := by decide +kernel
theorem tyX9_ok : ∀ k, k < 5 → parseFieldDescriptor (TX9 k).2.2.1 = some (tyX9 k) := by decide +kernel
abbrev cX9_init : ByteArray := prog_1_method_1_code
def yX9_init : MethodName := ⟨RX9, "<init>", "()V"⟩
abbrev cX9_feed : ByteArray := prog_1_method_2_code
def yX9_feed : MethodName := ⟨RX9, "feed", "(IIIII)I"⟩
abbrev cX9_end : ByteArray := prog_1_method_3_code
def yX9_end : MethodName := ⟨RX9, "end", "(I)I"⟩
abbrev cX9_text : ByteArray := prog_1_method_4_code
def yX9_text : MethodName := ⟨RX9, "text", "(Z)I"⟩
abbrev cX9_fault : ByteArray := prog_1_method_5_code
def yX9_fault : MethodName := ⟨RX9, "fault", "()I"⟩
abbrev cX9_refused : ByteArray := prog_1_method_6_code
def yX9_refused : MethodName := ⟨RX9, "refused", "()I"⟩
abbrev cX9_day : ByteArray := prog_1_method_7_code
def yX9_day : MethodName := ⟨RX9, "day", "(I)I"⟩
abbrev cX9_cash : ByteArray := prog_1_method_8_code
def yX9_cash : MethodName := ⟨RX9, "cash", "(II)I"⟩
abbrev cX9_grace : ByteArray := prog_1_method_9_code
def yX9_grace : MethodName := ⟨RX9, "grace", "(I)I"⟩
abbrev cX9_draw : ByteArray := prog_1_method_10_code
def yX9_draw : MethodName := ⟨RX9, "draw", "(IIIII)I"⟩
abbrev cX9_accept : ByteArray := prog_1_method_11_code
def yX9_accept : MethodName := ⟨RX9, "accept", "(I)I"⟩
abbrev cX9_pass : ByteArray := prog_1_method_12_code
def yX9_pass : MethodName := ⟨RX9, "pass", "(IIIIZ)I"⟩
abbrev cX9_forge : ByteArray := prog_1_method_13_code
def yX9_forge : MethodName := ⟨RX9, "forge", "(IIIIZ)I"⟩
abbrev cX9_find : ByteArray := prog_1_method_14_code
def yX9_find : MethodName := ⟨RX9, "find", "(II)I"⟩
abbrev cX9_defend : ByteArray := prog_1_method_15_code
def yX9_defend : MethodName := ⟨RX9, "defend", "(IIZ)I"⟩
abbrev cX9_present : ByteArray := prog_1_method_16_code
def yX9_present : MethodName := ⟨RX9, "present", "(I)I"⟩
abbrev cX9_tell : ByteArray := prog_1_method_17_code
def yX9_tell : MethodName := ⟨RX9, "tell", "(III)I"⟩
abbrev cX9_release : ByteArray := prog_1_method_18_code
def yX9_release : MethodName := ⟨RX9, "release", "(II)I"⟩
abbrev cX9_pay : ByteArray := prog_1_method_19_code
def yX9_pay : MethodName := ⟨RX9, "pay", "(II)I"⟩
abbrev cX9_count : ByteArray := prog_1_method_20_code
def yX9_count : MethodName := ⟨RX9, "count", "(I)I"⟩
abbrev cX9_bill : ByteArray := prog_1_method_21_code
def yX9_bill : MethodName := ⟨RX9, "bill", "(II)I"⟩
abbrev cX9_step : ByteArray := prog_1_method_22_code
def yX9_step : MethodName := ⟨RX9, "step", "(III)I"⟩
abbrev cX9_party : ByteArray := prog_1_method_23_code
def yX9_party : MethodName := ⟨RX9, "party", "(III)I"⟩
abbrev cX9_why : ByteArray := prog_1_method_24_code
def yX9_why : MethodName := ⟨RX9, "why", "(IIII)I"⟩
abbrev cX9_liable : ByteArray := prog_1_method_25_code
def yX9_liable : MethodName := ⟨RX9, "liable", "(I)I"⟩
abbrev cX9_reach : ByteArray := prog_1_method_26_code
def yX9_reach : MethodName := ⟨RX9, "reach", "(I)I"⟩
abbrev cX9_run : ByteArray := prog_1_method_27_code
def yX9_run : MethodName := ⟨RX9, "run", "(II)I"⟩
abbrev cX9_gains : ByteArray := prog_1_method_28_code
def yX9_gains : MethodName := ⟨RX9, "gains", "(II)I"⟩
abbrev cX9_ends : ByteArray := prog_1_method_29_code
def yX9_ends : MethodName := ⟨RX9, "ends", "(I)I"⟩
abbrev cX9_owes : ByteArray := prog_1_method_30_code
def yX9_owes : MethodName := ⟨RX9, "owes", "(I)I"⟩
abbrev cX9_worth : ByteArray := prog_1_method_31_code
def yX9_worth : MethodName := ⟨RX9, "worth", "(I)I"⟩
abbrev cX9_until : ByteArray := prog_1_method_32_code
def yX9_until : MethodName := ⟨RX9, "until", "(II)I"⟩
abbrev cX9_sorts : ByteArray := prog_1_method_33_code
def yX9_sorts : MethodName := ⟨RX9, "sorts", "(II)I"⟩
abbrev cX9_image : ByteArray := prog_1_method_34_code
def yX9_image : MethodName := ⟨RX9, "image", "(I)Z"⟩
abbrev cX9_again : ByteArray := prog_1_method_35_code
def yX9_again : MethodName := ⟨RX9, "again", "(I)Z"⟩
abbrev cX9_reasonOfLine : ByteArray := prog_1_method_36_code
def yX9_reasonOfLine : MethodName := ⟨RX9, "reasonOfLine", "()I"⟩
abbrev cX9_refusalOf : ByteArray := prog_1_method_37_code
def yX9_refusalOf : MethodName := ⟨RX9, "refusalOf", "(I)I"⟩
abbrev cX9_isPerson : ByteArray := prog_1_method_38_code
def yX9_isPerson : MethodName := ⟨RX9, "isPerson", "(I)Z"⟩
abbrev cX9_bit : ByteArray := prog_1_method_39_code
def yX9_bit : MethodName := ⟨RX9, "bit", "(Z)I"⟩
def RX10 : String := "BillRegistryModel"
def TX10 : u_T := fun k => match k with
  | 0 => ("BillRegistryModel", "all", "[I", true)
  | 1 => ("BillRegistryModel", "tape", "[I", true)
  | 2 => ("BillRegistryModel", "isImage", "[Z", true)
  | 3 => ("BillRegistryModel", "taped", "I", false)
  | 4 => ("BillRegistryModel", "faultPlace", "I", false)
  | 5 => ("BillRegistryModel", "paying", "[I", true)
  | 6 => ("BillRegistryModel", "size", "I", false)
  | 7 => ("BillRegistryModel", "next", "I", false)
  | 8 => ("BillRegistryModel", "token", "I", false)
  | 9 => ("BillRegistryModel", "place", "I", false)
  | 10 => ("BillRegistryModel", "lines", "I", false)
  | 11 => ("BillRegistryModel", "value", "J", false)
  | 12 => ("BillRegistryModel", "wrong", "Z", false)
  | _ => ("BillRegistryModel", "line", "[I", true)
def tyX10 : Nat → FieldType := fun k => match k with
  | 0 => .array .int
  | 1 => .array .int
  | 2 => .array .boolean
  | 3 => .int
  | 4 => .int
  | 5 => .array .int
  | 6 => .int
  | 7 => .int
  | 8 => .int
  | 9 => .int
  | 10 => .int
  | 11 => .long
  | 12 => .boolean
  | _ => .array .int
theorem nmX10 : ∀ a, a < 14 → ∀ b, b < 14 → a ≠ b → (TX10 a).2.1 ≠ (TX10 b).2.1 := by decide +kernel
theorem tyX10_ok : ∀ k, k < 14 → parseFieldDescriptor (TX10 k).2.2.1 = some (tyX10 k) := by decide +kernel
abbrev cX10_init : ByteArray := prog_12_method_1_code
def yX10_init : MethodName := ⟨RX10, "<init>", "()V"⟩
abbrev cX10_begins : ByteArray := prog_12_method_2_code
def yX10_begins : MethodName := ⟨RX10, "begins", "()V"⟩
abbrev cX10_isIn : ByteArray := prog_12_method_3_code
def yX10_isIn : MethodName := ⟨RX10, "isIn", "(III)Z"⟩
abbrev cX10_copies : ByteArray := prog_12_method_4_code
def yX10_copies : MethodName := ⟨RX10, "copies", "(II)V"⟩
abbrev cX10_at : ByteArray := prog_12_method_5_code
def yX10_at : MethodName := ⟨RX10, "at", "(II)I"⟩
abbrev cX10_stepAt : ByteArray := prog_12_method_6_code
def yX10_stepAt : MethodName := ⟨RX10, "stepAt", "(II)I"⟩
abbrev cX10_partyAt : ByteArray := prog_12_method_7_code
def yX10_partyAt : MethodName := ⟨RX10, "partyAt", "(II)I"⟩
abbrev cX10_isBill : ByteArray := prog_12_method_8_code
def yX10_isBill : MethodName := ⟨RX10, "isBill", "(I)Z"⟩
abbrev cX10_isPerson : ByteArray := prog_12_method_9_code
def yX10_isPerson : MethodName := ⟨RX10, "isPerson", "(I)Z"⟩
abbrev cX10_isParty : ByteArray := prog_12_method_10_code
def yX10_isParty : MethodName := ⟨RX10, "isParty", "(II)Z"⟩
abbrev cX10_who : ByteArray := prog_12_method_11_code
def yX10_who : MethodName := ⟨RX10, "who", "(II)I"⟩
abbrev cX10_hasSigned : ByteArray := prog_12_method_12_code
def yX10_hasSigned : MethodName := ⟨RX10, "hasSigned", "(II)Z"⟩
abbrev cX10_startsChain : ByteArray := prog_12_method_13_code
def yX10_startsChain : MethodName := ⟨RX10, "startsChain", "(I)V"⟩
abbrev cX10_owns : ByteArray := prog_12_method_14_code
def yX10_owns : MethodName := ⟨RX10, "owns", "(III)V"⟩
abbrev cX10_gets : ByteArray := prog_12_method_15_code
def yX10_gets : MethodName := ⟨RX10, "gets", "(II)V"⟩
abbrev cX10_goes : ByteArray := prog_12_method_16_code
def yX10_goes : MethodName := ⟨RX10, "goes", "(IIZ)V"⟩
abbrev cX10_endorses : ByteArray := prog_12_method_17_code
def yX10_endorses : MethodName := ⟨RX10, "endorses", "(IIZ)V"⟩
abbrev cX10_hasTitle : ByteArray := prog_12_method_18_code
def yX10_hasTitle : MethodName := ⟨RX10, "hasTitle", "(I)Z"⟩
abbrev cX10_steps : ByteArray := prog_12_method_19_code
def yX10_steps : MethodName := ⟨RX10, "steps", "(IIIIIIIZZ)I"⟩
abbrev cX10_clears : ByteArray := prog_12_method_20_code
def yX10_clears : MethodName := ⟨RX10, "clears", "(I)V"⟩
abbrev cX10_rank : ByteArray := prog_12_method_21_code
def yX10_rank : MethodName := ⟨RX10, "rank", "(I)I"⟩
abbrev cX10_isInTime : ByteArray := prog_12_method_22_code
def yX10_isInTime : MethodName := ⟨RX10, "isInTime", "(II)Z"⟩
abbrev cX10_reachOf : ByteArray := prog_12_method_23_code
def yX10_reachOf : MethodName := ⟨RX10, "reachOf", "(II)I"⟩
abbrev cX10_reason : ByteArray := prog_12_method_24_code
def yX10_reason : MethodName := ⟨RX10, "reason", "(III)I"⟩
abbrev cX10_hasCash : ByteArray := prog_12_method_25_code
def yX10_hasCash : MethodName := ⟨RX10, "hasCash", "(III)Z"⟩
abbrev cX10_pays : ByteArray := prog_12_method_26_code
def yX10_pays : MethodName := ⟨RX10, "pays", "(III)I"⟩
abbrev cX10_frees : ByteArray := prog_12_method_27_code
def yX10_frees : MethodName := ⟨RX10, "frees", "(III)V"⟩
abbrev cX10_told : ByteArray := prog_12_method_28_code
def yX10_told : MethodName := ⟨RX10, "told", "(I)I"⟩
abbrev cX10_days : ByteArray := prog_12_method_29_code
def yX10_days : MethodName := ⟨RX10, "days", "(I)I"⟩
abbrev cX10_day : ByteArray := prog_12_method_30_code
def yX10_day : MethodName := ⟨RX10, "day", "(I)I"⟩
abbrev cX10_hasNow : ByteArray := prog_12_method_31_code
def yX10_hasNow : MethodName := ⟨RX10, "hasNow", "(II)I"⟩
abbrev cX10_cash : ByteArray := prog_12_method_32_code
def yX10_cash : MethodName := ⟨RX10, "cash", "(II)I"⟩
abbrev cX10_graces : ByteArray := prog_12_method_33_code
def yX10_graces : MethodName := ⟨RX10, "graces", "(I)I"⟩
abbrev cX10_grace : ByteArray := prog_12_method_34_code
def yX10_grace : MethodName := ⟨RX10, "grace", "(I)I"⟩
abbrev cX10_draws : ByteArray := prog_12_method_35_code
def yX10_draws : MethodName := ⟨RX10, "draws", "(IIIZII)I"⟩
abbrev cX10_draw : ByteArray := prog_12_method_36_code
def yX10_draw : MethodName := ⟨RX10, "draw", "(IIIII)I"⟩
abbrev cX10_accepts : ByteArray := prog_12_method_37_code
def yX10_accepts : MethodName := ⟨RX10, "accepts", "(I)I"⟩
abbrev cX10_accept : ByteArray := prog_12_method_38_code
def yX10_accept : MethodName := ⟨RX10, "accept", "(I)I"⟩
abbrev cX10_stepReason : ByteArray := prog_12_method_39_code
def yX10_stepReason : MethodName := ⟨RX10, "stepReason", "(III)I"⟩
abbrev cX10_passes : ByteArray := prog_12_method_40_code
def yX10_passes : MethodName := ⟨RX10, "passes", "(IIZIIZ)I"⟩
abbrev cX10_pass : ByteArray := prog_12_method_41_code
def yX10_pass : MethodName := ⟨RX10, "pass", "(IIIIZ)I"⟩
abbrev cX10_forges : ByteArray := prog_12_method_42_code
def yX10_forges : MethodName := ⟨RX10, "forges", "(IIIIZ)I"⟩
abbrev cX10_forge : ByteArray := prog_12_method_43_code
def yX10_forge : MethodName := ⟨RX10, "forge", "(IIIIZ)I"⟩
abbrev cX10_finds : ByteArray := prog_12_method_44_code
def yX10_finds : MethodName := ⟨RX10, "finds", "(II)I"⟩
abbrev cX10_find : ByteArray := prog_12_method_45_code
def yX10_find : MethodName := ⟨RX10, "find", "(II)I"⟩
abbrev cX10_isSigned : ByteArray := prog_12_method_46_code
def yX10_isSigned : MethodName := ⟨RX10, "isSigned", "(II)Z"⟩
abbrev cX10_defends : ByteArray := prog_12_method_47_code
def yX10_defends : MethodName := ⟨RX10, "defends", "(IIZ)I"⟩
abbrev cX10_defend : ByteArray := prog_12_method_48_code
def yX10_defend : MethodName := ⟨RX10, "defend", "(IIZ)I"⟩
abbrev cX10_presents : ByteArray := prog_12_method_49_code
def yX10_presents : MethodName := ⟨RX10, "presents", "(I)I"⟩
abbrev cX10_present : ByteArray := prog_12_method_50_code
def yX10_present : MethodName := ⟨RX10, "present", "(I)I"⟩
abbrev cX10_notifies : ByteArray := prog_12_method_51_code
def yX10_notifies : MethodName := ⟨RX10, "notifies", "(III)I"⟩
abbrev cX10_tell : ByteArray := prog_12_method_52_code
def yX10_tell : MethodName := ⟨RX10, "tell", "(III)I"⟩
abbrev cX10_releases : ByteArray := prog_12_method_53_code
def yX10_releases : MethodName := ⟨RX10, "releases", "(II)I"⟩
abbrev cX10_release : ByteArray := prog_12_method_54_code
def yX10_release : MethodName := ⟨RX10, "release", "(II)I"⟩
abbrev cX10_paysNow : ByteArray := prog_12_method_55_code
def yX10_paysNow : MethodName := ⟨RX10, "paysNow", "(II)I"⟩
abbrev cX10_pay : ByteArray := prog_12_method_56_code
def yX10_pay : MethodName := ⟨RX10, "pay", "(II)I"⟩
abbrev cX10_liableBits : ByteArray := prog_12_method_57_code
def yX10_liableBits : MethodName := ⟨RX10, "liableBits", "(II)I"⟩
abbrev cX10_payer : ByteArray := prog_12_method_58_code
def yX10_payer : MethodName := ⟨RX10, "payer", "(II)I"⟩
abbrev cX10_runs : ByteArray := prog_12_method_59_code
def yX10_runs : MethodName := ⟨RX10, "runs", "(I)I"⟩
abbrev cX10_bitsOf : ByteArray := prog_12_method_60_code
def yX10_bitsOf : MethodName := ⟨RX10, "bitsOf", "(I)I"⟩
abbrev cX10_isCured : ByteArray := prog_12_method_61_code
def yX10_isCured : MethodName := ⟨RX10, "isCured", "(II)Z"⟩
abbrev cX10_cure : ByteArray := prog_12_method_62_code
def yX10_cure : MethodName := ⟨RX10, "cure", "(I)I"⟩
abbrev cX10_billsThat : ByteArray := prog_12_method_63_code
def yX10_billsThat : MethodName := ⟨RX10, "billsThat", "(I)I"⟩
abbrev cX10_count : ByteArray := prog_12_method_64_code
def yX10_count : MethodName := ⟨RX10, "count", "(I)I"⟩
abbrev cX10_refused : ByteArray := prog_12_method_65_code
def yX10_refused : MethodName := ⟨RX10, "refused", "()I"⟩
abbrev cX10_bill : ByteArray := prog_12_method_66_code
def yX10_bill : MethodName := ⟨RX10, "bill", "(II)I"⟩
abbrev cX10_isStep : ByteArray := prog_12_method_67_code
def yX10_isStep : MethodName := ⟨RX10, "isStep", "(II)Z"⟩
abbrev cX10_step : ByteArray := prog_12_method_68_code
def yX10_step : MethodName := ⟨RX10, "step", "(III)I"⟩
abbrev cX10_party : ByteArray := prog_12_method_69_code
def yX10_party : MethodName := ⟨RX10, "party", "(III)I"⟩
abbrev cX10_cause : ByteArray := prog_12_method_70_code
def yX10_cause : MethodName := ⟨RX10, "cause", "(III)I"⟩
abbrev cX10_why : ByteArray := prog_12_method_71_code
def yX10_why : MethodName := ⟨RX10, "why", "(IIII)I"⟩
abbrev cX10_liable : ByteArray := prog_12_method_72_code
def yX10_liable : MethodName := ⟨RX10, "liable", "(I)I"⟩
abbrev cX10_reach : ByteArray := prog_12_method_73_code
def yX10_reach : MethodName := ⟨RX10, "reach", "(I)I"⟩
abbrev cX10_run : ByteArray := prog_12_method_74_code
def yX10_run : MethodName := ⟨RX10, "run", "(II)I"⟩
abbrev cX10_gains : ByteArray := prog_12_method_75_code
def yX10_gains : MethodName := ⟨RX10, "gains", "(II)I"⟩
abbrev cX10_ends : ByteArray := prog_12_method_76_code
def yX10_ends : MethodName := ⟨RX10, "ends", "(I)I"⟩
abbrev cX10_owes : ByteArray := prog_12_method_77_code
def yX10_owes : MethodName := ⟨RX10, "owes", "(I)I"⟩
abbrev cX10_worth : ByteArray := prog_12_method_78_code
def yX10_worth : MethodName := ⟨RX10, "worth", "(I)I"⟩
abbrev cX10_until : ByteArray := prog_12_method_79_code
def yX10_until : MethodName := ⟨RX10, "until", "(II)I"⟩
abbrev cX10_sorts : ByteArray := prog_12_method_80_code
def yX10_sorts : MethodName := ⟨RX10, "sorts", "(II)I"⟩
abbrev cX10_feed : ByteArray := prog_12_method_81_code
def yX10_feed : MethodName := ⟨RX10, "feed", "(IIIII)I"⟩
abbrev cX10_end : ByteArray := prog_12_method_82_code
def yX10_end : MethodName := ⟨RX10, "end", "(I)I"⟩
abbrev cX10_byteAt : ByteArray := prog_12_method_83_code
def yX10_byteAt : MethodName := ⟨RX10, "byteAt", "(I)I"⟩
abbrev cX10_isLetter : ByteArray := prog_12_method_84_code
def yX10_isLetter : MethodName := ⟨RX10, "isLetter", "(I)Z"⟩
abbrev cX10_isDigit : ByteArray := prog_12_method_85_code
def yX10_isDigit : MethodName := ⟨RX10, "isDigit", "(I)Z"⟩
abbrev cX10_takes : ByteArray := prog_12_method_86_code
def yX10_takes : MethodName := ⟨RX10, "takes", "()V"⟩
abbrev cX10_fails : ByteArray := prog_12_method_87_code
def yX10_fails : MethodName := ⟨RX10, "fails", "()V"⟩
abbrev cX10_hasWord : ByteArray := prog_12_method_88_code
def yX10_hasWord : MethodName := ⟨RX10, "hasWord", "(J)Z"⟩
abbrev cX10_isLine : ByteArray := prog_12_method_89_code
def yX10_isLine : MethodName := ⟨RX10, "isLine", "(JII)Z"⟩
abbrev cX10_readsLine : ByteArray := prog_12_method_90_code
def yX10_readsLine : MethodName := ⟨RX10, "readsLine", "()V"⟩
abbrev cX10_done : ByteArray := prog_12_method_91_code
def yX10_done : MethodName := ⟨RX10, "done", "(I)I"⟩
abbrev cX10_text : ByteArray := prog_12_method_92_code
def yX10_text : MethodName := ⟨RX10, "text", "(Z)I"⟩
abbrev cX10_fault : ByteArray := prog_12_method_93_code
def yX10_fault : MethodName := ⟨RX10, "fault", "()I"⟩
abbrev cX10_image : ByteArray := prog_12_method_94_code
def yX10_image : MethodName := ⟨RX10, "image", "(I)Z"⟩
abbrev cX10_again : ByteArray := prog_12_method_95_code
def yX10_again : MethodName := ⟨RX10, "again", "(I)Z"⟩
def RJx145de : String := "java/io/Serializable"
def TJx145de : u_T := fun k => match k with
  | _ => ("", "", "", false)
def tyJx145de : Nat → FieldType := fun k => match k with
  | _ => .int
theorem nmJx145de : ∀ a, a < 0 → ∀ b, b < 0 → a ≠ b → (TJx145de a).2.1 ≠ (TJx145de b).2.1 := by decide +kernel
theorem tyJx145de_ok : ∀ k, k < 0 → parseFieldDescriptor (TJx145de k).2.2.1 = some (tyJx145de k) := by decide +kernel
def RJx9f9b0 : String := "java/lang/CharSequence"
def TJx9f9b0 : u_T := fun k => match k with
  | _ => ("", "", "", false)
def tyJx9f9b0 : Nat → FieldType := fun k => match k with
  | _ => .int
theorem nmJx9f9b0 : ∀ a, a < 0 → ∀ b, b < 0 → a ≠ b → (TJx9f9b0 a).2.1 ≠ (TJx9f9b0 b).2.1 := by decide +kernel
theorem tyJx9f9b0_ok : ∀ k, k < 0 → parseFieldDescriptor (TJx9f9b0 k).2.2.1 = some (tyJx9f9b0 k) := by decide +kernel
def RJxb160c : String := "java/lang/Comparable"
def TJxb160c : u_T := fun k => match k with
  | _ => ("", "", "", false)
def tyJxb160c : Nat → FieldType := fun k => match k with
  | _ => .int
theorem nmJxb160c : ∀ a, a < 0 → ∀ b, b < 0 → a ≠ b → (TJxb160c a).2.1 ≠ (TJxb160c b).2.1 := by decide +kernel
theorem tyJxb160c_ok : ∀ k, k < 0 → parseFieldDescriptor (TJxb160c k).2.2.1 = some (tyJxb160c k) := by decide +kernel
def RJx29ce0 : String := "java/lang/Enum"
def TJx29ce0 : u_T := fun k => match k with
  | _ => ("", "", "", false)
def tyJx29ce0 : Nat → FieldType := fun k => match k with
  | _ => .int
theorem nmJx29ce0 : ∀ a, a < 0 → ∀ b, b < 0 → a ≠ b → (TJx29ce0 a).2.1 ≠ (TJx29ce0 b).2.1 := by decide +kernel
theorem tyJx29ce0_ok : ∀ k, k < 0 → parseFieldDescriptor (TJx29ce0 k).2.2.1 = some (tyJx29ce0 k) := by decide +kernel
abbrev cJx29ce0_ordinal_8abf5 : ByteArray := prog_13_method_2_code
def yJx29ce0_ordinal_8abf5 : MethodName := ⟨RJx29ce0, "ordinal", "()I"⟩
def RJ9 : String := "java/lang/Math"
def TJ9 : u_T := fun k => match k with
  | _ => ("", "", "", false)
def tyJ9 : Nat → FieldType := fun k => match k with
  | _ => .int
theorem nmJ9 : ∀ a, a < 0 → ∀ b, b < 0 → a ≠ b → (TJ9 a).2.1 ≠ (TJ9 b).2.1 := by decide +kernel
theorem tyJ9_ok : ∀ k, k < 0 → parseFieldDescriptor (TJ9 k).2.2.1 = some (tyJ9 k) := by decide +kernel
abbrev cJ9_max_7cf53 : ByteArray := prog_14_method_65_code
def yJ9_max_7cf53 : MethodName := ⟨RJ9, "max", "(II)I"⟩
abbrev cJ9_min_7cf53 : ByteArray := prog_14_method_69_code
def yJ9_min_7cf53 : MethodName := ⟨RJ9, "min", "(II)I"⟩
def RJ0 : String := "java/lang/String"
def TJ0 : u_T := fun k => match k with
  | _ => ("", "", "", false)
def tyJ0 : Nat → FieldType := fun k => match k with
  | _ => .int
theorem nmJ0 : ∀ a, a < 0 → ∀ b, b < 0 → a ≠ b → (TJ0 a).2.1 ≠ (TJ0 b).2.1 := by decide +kernel
theorem tyJ0_ok : ∀ k, k < 0 → parseFieldDescriptor (TJ0 k).2.2.1 = some (tyJ0 k) := by decide +kernel
abbrev cJ0_length_8abf5 : ByteArray := prog_15_method_54_code
def yJ0_length_8abf5 : MethodName := ⟨RJ0, "length", "()I"⟩
abbrev cJ0_charAt_5068e : ByteArray := prog_15_method_56_code
def yJ0_charAt_5068e : MethodName := ⟨RJ0, "charAt", "(I)C"⟩
abbrev cJ0_coder_7d493 : ByteArray := prog_15_method_152_code
def yJ0_coder_7d493 : MethodName := ⟨RJ0, "coder", "()B"⟩
abbrev cJ0_isLatin1_aae02 : ByteArray := prog_15_method_154_code
def yJ0_isLatin1_aae02 : MethodName := ⟨RJ0, "isLatin1", "()Z"⟩
abbrev cJ0_checkIndex_df160 : ByteArray := prog_15_method_155_code
def yJ0_checkIndex_df160 : MethodName := ⟨RJ0, "checkIndex", "(II)V"⟩
def RJ1 : String := "java/lang/StringLatin1"
def TJ1 : u_T := fun k => match k with
  | _ => ("", "", "", false)
def tyJ1 : Nat → FieldType := fun k => match k with
  | _ => .int
theorem nmJ1 : ∀ a, a < 0 → ∀ b, b < 0 → a ≠ b → (TJ1 a).2.1 ≠ (TJ1 b).2.1 := by decide +kernel
theorem tyJ1_ok : ∀ k, k < 0 → parseFieldDescriptor (TJ1 k).2.2.1 = some (tyJ1 k) := by decide +kernel
abbrev cJ1_charAt_3b067 : ByteArray := prog_16_method_2_code
def yJ1_charAt_3b067 : MethodName := ⟨RJ1, "charAt", "([BI)C"⟩
def RJ2 : String := "java/lang/StringUTF16"
def TJ2 : u_T := fun k => match k with
  | _ => ("", "", "", false)
def tyJ2 : Nat → FieldType := fun k => match k with
  | _ => .int
theorem nmJ2 : ∀ a, a < 0 → ∀ b, b < 0 → a ≠ b → (TJ2 a).2.1 ≠ (TJ2 b).2.1 := by decide +kernel
theorem tyJ2_ok : ∀ k, k < 0 → parseFieldDescriptor (TJ2 k).2.2.1 = some (tyJ2 k) := by decide +kernel
abbrev cJ2_getChar_3b067 : ByteArray := prog_17_method_5_code
def yJ2_getChar_3b067 : MethodName := ⟨RJ2, "getChar", "([BI)C"⟩
abbrev cJ2_length_9d52b : ByteArray := prog_17_method_6_code
def yJ2_length_9d52b : MethodName := ⟨RJ2, "length", "([B)I"⟩
abbrev cJ2_charAt_3b067 : ByteArray := prog_17_method_83_code
def yJ2_charAt_3b067 : MethodName := ⟨RJ2, "charAt", "([BI)C"⟩
abbrev cJ2_checkIndex_2214a : ByteArray := prog_17_method_91_code
def yJ2_checkIndex_2214a : MethodName := ⟨RJ2, "checkIndex", "(I[B)V"⟩
def RJ10 : String := "java/lang/System"
def TJ10 : u_T := fun k => match k with
  | _ => ("", "", "", false)
def tyJ10 : Nat → FieldType := fun k => match k with
  | _ => .int
theorem nmJ10 : ∀ a, a < 0 → ∀ b, b < 0 → a ≠ b → (TJ10 a).2.1 ≠ (TJ10 b).2.1 := by decide +kernel
theorem tyJ10_ok : ∀ k, k < 0 → parseFieldDescriptor (TJ10 k).2.2.1 = some (tyJ10 k) := by decide +kernel
def RJxfd54e : String := "java/lang/constant/Constable"
def TJxfd54e : u_T := fun k => match k with
  | _ => ("", "", "", false)
def tyJxfd54e : Nat → FieldType := fun k => match k with
  | _ => .int
theorem nmJxfd54e : ∀ a, a < 0 → ∀ b, b < 0 → a ≠ b → (TJxfd54e a).2.1 ≠ (TJxfd54e b).2.1 := by decide +kernel
theorem tyJxfd54e_ok : ∀ k, k < 0 → parseFieldDescriptor (TJxfd54e k).2.2.1 = some (tyJxfd54e k) := by decide +kernel
def RJx3cf43 : String := "java/lang/constant/ConstantDesc"
def TJx3cf43 : u_T := fun k => match k with
  | _ => ("", "", "", false)
def tyJx3cf43 : Nat → FieldType := fun k => match k with
  | _ => .int
theorem nmJx3cf43 : ∀ a, a < 0 → ∀ b, b < 0 → a ≠ b → (TJx3cf43 a).2.1 ≠ (TJx3cf43 b).2.1 := by decide +kernel
theorem tyJx3cf43_ok : ∀ k, k < 0 → parseFieldDescriptor (TJx3cf43 k).2.2.1 = some (tyJx3cf43 k) := by decide +kernel
def RJ7 : String := "java/util/Arrays"
def TJ7 : u_T := fun k => match k with
  | _ => ("", "", "", false)
def tyJ7 : Nat → FieldType := fun k => match k with
  | _ => .int
theorem nmJ7 : ∀ a, a < 0 → ∀ b, b < 0 → a ≠ b → (TJ7 a).2.1 ≠ (TJ7 b).2.1 := by decide +kernel
theorem tyJ7_ok : ∀ k, k < 0 → parseFieldDescriptor (TJ7 k).2.2.1 = some (tyJ7 k) := by decide +kernel
abbrev cJ7_fill_53178 : ByteArray := prog_19_method_103_code
def yJ7_fill_53178 : MethodName := ⟨RJ7, "fill", "([II)V"⟩
def RJ3 : String := "jdk/internal/util/Preconditions"
def TJ3 : u_T := fun k => match k with
  | _ => ("", "", "", false)
def tyJ3 : Nat → FieldType := fun k => match k with
  | _ => .int
theorem nmJ3 : ∀ a, a < 0 → ∀ b, b < 0 → a ≠ b → (TJ3 a).2.1 ≠ (TJ3 b).2.1 := by decide +kernel
theorem tyJ3_ok : ∀ k, k < 0 → parseFieldDescriptor (TJ3 k).2.2.1 = some (tyJ3 k) := by decide +kernel
abbrev cJ3_checkIndex_8e157 : ByteArray := prog_20_method_11_code
def yJ3_checkIndex_8e157 : MethodName := ⟨RJ3, "checkIndex", "(IILjava/util/function/BiFunction;)I"⟩
def RL : String := "BillRegistryLaw"
abbrev cL_law : ByteArray := code
def yL_law : MethodName := ⟨RL, "law", "([I)Z"⟩
abbrev vwCl : List vw_C := [(RX1, TX1, 19), (RX2, TX2, 8), (RX3, TX3, 1), (RX4, TX4, 10), (RX5, TX5, 4), (RX6, TX6, 11), (RX8, TX8, 11), (RX9, TX9, 5), (RX10, TX10, 14)]
/-! The words of the tables that keep, as one list for every method -/
def TB : List Cond := lw_tbl.filter goodWord
theorem TB_in {w : Cond} (h : w ∈ TB) : w ∈ lw_tbl := (List.mem_filter.mp h).1
theorem TB_gd {w : Cond} (h : w ∈ TB) : goodWord w = true := (List.mem_filter.mp h).2
theorem TB_t (i : Nat) {w : Cond} (h : tables_1[i]? = some w) (hg : goodWord w = true) : w ∈ TB := List.mem_filter.mpr ⟨List.mem_append_right _ (List.mem_of_getElem? h), hg⟩
theorem TB_s (i : Nat) {w : Cond} (h : (k2_sels lw_privs)[i]? = some w) (hg : goodWord w = true) : w ∈ TB := List.mem_filter.mpr ⟨List.mem_append_left _ (List.mem_of_getElem? h), hg⟩
theorem TB_l {ws : List Cond} (ps : List Nat) (hp : ws = ps.filterMap (fun i => tables_1[i]?)) (h : ws.all goodWord = true) : ∀ w ∈ ws, w ∈ TB := by
  intro w hw
  have h1 := List.all_eq_true.mp h w hw
  rw [hp] at hw
  obtain ⟨i, -, hi⟩ := List.mem_filterMap.mp hw
  exact TB_t i hi h1
abbrev wm (y : MethodName) (cc : ByteArray) (n : Nat) (r : Option FieldType) : List Cond := .code y cc n r :: TB
theorem wm_good {y : MethodName} {cc : ByteArray} {n : Nat} {r : Option FieldType} (hc : Cond.code y cc n r ∈ TB) : GoodIn TB (wm y cc n r) := by
  intro w hw
  rcases List.mem_cons.mp hw with e | h
  · subst e
    exact ⟨hc, good_of_word (TB_gd hc)⟩
  · exact ⟨h, good_of_word (TB_gd h)⟩
/-! Worlds: T the cells of which a tag is known, M what is known exactly beside that (of cells without a tag, and of single tagged ones) -/
abbrev mM : Type := Nat → Option va_E
abbrev mT : Type := Nat → Option Nat
abbrev fS : Type := (Int × Int) ⊕ Nat
abbrev tS : Type := (Nat × List fS) ⊕ (Nat × Nat × fS)
def okV (T : mT) (sp : fS) (v : Value) : Prop := match sp with
  | .inl r => ∃ x : Int32, v = .int x ∧ r.1 ≤ x.toInt ∧ x.toInt ≤ r.2
  | .inr τ => ∃ q : Nat, v = .ref q ∧ T q = some τ
def confE (kA : Nat → ClassId) (T : mT) (sp : tS) (e : va_E) : Prop := match sp with
  | .inl o => ∃ fs : List Value, e = .inr (o.1, fs) ∧ fs.length = o.2.length ∧ ∀ (k : Nat) (q : fS), o.2[k]? = some q → ∃ v, fs[k]? = some v ∧ okV T q v
  | .inr (c, n, .inl r) => ∃ f : Nat → Int32, e = .inl (kA c, n, .inl f) ∧ ∀ j, j < n → r.1 ≤ (f j).toInt ∧ (f j).toInt ≤ r.2
  | .inr (c, n, .inr τ) => ∃ g : Nat → Option Nat, e = .inl (kA c, n, .inr (.inr (.inr (.inr g)))) ∧ ∀ j, j < n → ∃ q, g j = some q ∧ T q = some τ
def fullI : fS := .inl (-2147483648, 2147483647)
def i07 : fS := .inl (0, 7)
def i012 : fS := .inl (0, 12)
def i01 : fS := .inl (0, 1)
/-- the tags: 0 Step, 1 Chain, 2 Bill, 3 int[8], 4 Step[12], 5 int[14], 6 Bill[4], 7 byte[600], 8 Chain[13], 9 Cure, 10 Recourse, 11 int[600], 12 int[5], 13 int[16], 14 int[1400] -/
def tsp : Nat → tS := fun τ => match τ with
  | 0 => .inl (5, [fullI, fullI, fullI, i07, fullI, fullI, fullI, fullI, i01, i01, i01])
  | 1 => .inl (1, [fullI, fullI, fullI, fullI, fullI, fullI, i01, .inr 3])
  | 2 => .inl (0, [fullI, fullI, fullI, fullI, fullI, i07, fullI, i012, i012, i01, i01, i01, .inr 4, .inr 1, .inr 1, .inr 5, .inr 5, .inr 5, .inr 5])
  | 3 => .inr (0, 8, fullI)
  | 4 => .inr (3, 12, .inr 0)
  | 5 => .inr (0, 14, fullI)
  | 6 => .inr (5, 4, .inr 2)
  | 7 => .inr (1, 600, .inl (-128, 127))
  | 8 => .inr (4, 13, .inr 1)
  | 9 => .inl (2, [.inr 8])
  | 11 => .inr (0, 600, fullI)
  | 12 => .inr (0, 5, fullI)
  | 13 => .inr (0, 16, fullI)
  | 14 => .inr (0, 1400, fullI)
  | _ => .inl (4, [.inr 2, .inr 3, .inr 5, .inl (0, 14)])
theorem fullI_ok (x : Int32) : (-2147483648 : Int) ≤ x.toInt ∧ x.toInt ≤ 2147483647 := by
  have h1 := Int32.minValue_le_toInt x
  have h2 := Int32.toInt_le x
  constructor
  · have : Int32.minValue.toInt = -2147483648 := by decide
    omega
  · have : Int32.maxValue.toInt = 2147483647 := by decide
    omega
def conf (kA : Nat → ClassId) (T : mT) (τ : Nat) (e : va_E) : Prop := confE kA T (tsp τ) e
theorem okV.mono {T T' : mT} (h : ∀ q τ, T q = some τ → T' q = some τ) {sp : fS} {v : Value} (hv : okV T sp v) : okV T' sp v := by
  cases sp with
  | inl r => exact hv
  | inr τ =>
    obtain ⟨q, e, hq⟩ := hv
    exact ⟨q, e, h q τ hq⟩
theorem confE.mono {kA : Nat → ClassId} {T T' : mT} (h : ∀ q τ, T q = some τ → T' q = some τ) {sp : tS} {e : va_E} (hc : confE kA T sp e) : confE kA T' sp e := by
  rcases sp with o | ⟨c, n, r | τ⟩
  · obtain ⟨fs, h1, h2, h3⟩ := hc
    refine ⟨fs, h1, h2, fun k q hk => ?_⟩
    obtain ⟨v, h4, h5⟩ := h3 k q hk
    exact ⟨v, h4, h5.mono h⟩
  · exact hc
  · obtain ⟨g, h1, h2⟩ := hc
    refine ⟨g, h1, fun j hj => ?_⟩
    obtain ⟨q, h3, h4⟩ := h2 j hj
    exact ⟨q, h3, h _ _ h4⟩
def hp (D : va_G) (kA : Nat → ClassId) (M : mM) (T : mT) (H : Heap) : Prop := (∀ (a : Nat) (e : va_E), M a = some e → va_at D vwCl (a, e) H) ∧ ∀ (a τ : Nat), T a = some τ → ∃ e, va_at D vwCl (a, e) H ∧ conf kA T τ e
def mA (M : mM) (T : mT) (sz : Nat) : Nat → Prop := fun q => M q ≠ none ∨ T q ≠ none ∨ sz ≤ q
def mS (D : va_G) (kA : Nat → ClassId) (M : mM) (T : mT) (A : Nat → Prop) (H0 H : Heap) (locs : List Loc) : Prop := hp D kA M T H ∧ va_S A H0 H locs ∧ (∀ q, M q ≠ none ∨ T q ≠ none → A q) ∧ ∀ q, H0.size ≤ q → A q
theorem upS {α : Type} (f : Nat → α) (a : Nat) (v : α) : va_up f a v a = v := if_pos rfl
theorem upN {α : Type} (f : Nat → α) {a b : Nat} (v : α) (h : b ≠ a) : va_up f a v b = f b := if_neg h
theorem at_P1 {D : va_G} {H : Heap} {a : Nat} {e : va_E} (h : va_at D vwCl (a, e) H) : va_P D vwCl [(a, e)] H := by
  intro k q hk
  have hz : k < 1 := (List.getElem?_eq_some_iff.mp hk).1
  rw [show k = 0 by omega] at hk
  cases hk
  exact h
theorem hp.P1 {D : va_G} {kA : Nat → ClassId} {M : mM} {T : mT} {H : Heap} (h : hp D kA M T H) {a : Nat} {e : va_E} (he : M a = some e) : va_P D vwCl [(a, e)] H := at_P1 (h.1 a e he)
theorem hp.ltM {D : va_G} {kA : Nat → ClassId} {M : mM} {T : mT} {H : Heap} (h : hp D kA M T H) {a : Nat} (ha : M a ≠ none) : a < H.size := by
  cases he : M a with
  | none => exact absurd he ha
  | some e => exact (h.1 a e he).lt
theorem hp.ltT {D : va_G} {kA : Nat → ClassId} {M : mM} {T : mT} {H : Heap} (h : hp D kA M T H) {a : Nat} (ha : T a ≠ none) : a < H.size := by
  cases he : T a with
  | none => exact absurd he ha
  | some τ =>
    obtain ⟨e, h1, -⟩ := h.2 a τ he
    exact h1.lt
/-- a cell of which something is known exactly is written; if it has a tag, what it holds then meets it -/
theorem mS.putM {D : va_G} {kA : Nat → ClassId} {M : mM} {T : mT} {A : Nat → Prop} {H0 H H1 : Heap} {locs : List Loc} (h : mS D kA M T A H0 H locs) {a k : Nat} {e0 e : va_E} (he : M a = some e0) (hcf : ∀ τ, T a = some τ → conf kA T τ e) (h1 : va_at D vwCl (a, e) H1) (z : H1.size = H.size) (oq : ∀ q : Nat, q ≠ a → H1[q]? = H[q]?) : mS D kA (va_up M a (some e)) T A H0 H1 (locs ++ [⟨a, k⟩]) := by
  obtain ⟨hh, hS, hd, hA⟩ := h
  refine ⟨⟨fun b e' hb => ?_, fun b τ hb => ?_⟩, hS.put z oq (hd a (Or.inl (by rw [he]; simp))), fun q hq => ?_, hA⟩
  · by_cases hab : b = a
    · subst hab
      rw [upS] at hb
      cases hb
      exact h1
    · rw [upN _ _ hab] at hb
      exact (hh.1 b e' hb).kept (oq b hab)
  · by_cases hab : b = a
    · subst hab
      exact ⟨e, h1, hcf τ hb⟩
    · obtain ⟨e', g2, g3⟩ := hh.2 b τ hb
      exact ⟨e', g2.kept (oq b hab), g3⟩
  · by_cases hab : q = a
    · subst hab
      exact hd q (Or.inl (by rw [he]; simp))
    · rw [upN _ _ hab] at hq
      exact hd q hq
/-- a tagged cell is written: what was known of it exactly is forgotten -/
theorem mS.putT {D : va_G} {kA : Nat → ClassId} {M : mM} {T : mT} {A : Nat → Prop} {H0 H H1 : Heap} {locs : List Loc} (h : mS D kA M T A H0 H locs) {a k τ : Nat} {e : va_E} (ht : T a = some τ) (h1 : va_at D vwCl (a, e) H1) (hc : conf kA T τ e) (z : H1.size = H.size) (oq : ∀ q : Nat, q ≠ a → H1[q]? = H[q]?) : mS D kA (va_up M a none) T A H0 H1 (locs ++ [⟨a, k⟩]) := by
  obtain ⟨hh, hS, hd, hA⟩ := h
  refine ⟨⟨fun b e' hb => ?_, fun b τ' hb => ?_⟩, hS.put z oq (hd a (Or.inr (by rw [ht]; simp))), fun q hq => ?_, hA⟩
  · by_cases hab : b = a
    · subst hab
      rw [upS] at hb
      cases hb
    · rw [upN _ _ hab] at hb
      exact (hh.1 b e' hb).kept (oq b hab)
  · by_cases hab : b = a
    · subst hab
      rw [ht] at hb
      cases hb
      exact ⟨e, h1, hc⟩
    · obtain ⟨e', g2, g3⟩ := hh.2 b τ' hb
      exact ⟨e', g2.kept (oq b hab), g3⟩
  · by_cases hab : q = a
    · subst hab
      exact hd q (Or.inr (by rw [ht]; simp))
    · rw [upN _ _ hab] at hq
      exact hd q hq
theorem mS.newM {D : va_G} {kA : Nat → ClassId} {M : mM} {T : mT} {A : Nat → Prop} {H0 H H1 : Heap} {locs : List Loc} (h : mS D kA M T A H0 H locs) {e : va_E} (h1 : va_at D vwCl (H.size, e) H1) (z : H1.size = H.size + 1) (oq : ∀ q : Nat, q < H.size → H1[q]? = H[q]?) : mS D kA (va_up M H.size (some e)) T A H0 H1 locs ∧ M H.size = none ∧ T H.size = none := by
  obtain ⟨hh, hS, hd, hA⟩ := h
  have n1 : M H.size = none := by
    cases hc : M H.size with
    | none => rfl
    | some x => exact absurd (hh.ltM (by rw [hc]; simp)) (Nat.lt_irrefl _)
  have n2 : T H.size = none := by
    cases hc : T H.size with
    | none => rfl
    | some x => exact absurd (hh.ltT (by rw [hc]; simp)) (Nat.lt_irrefl _)
  refine ⟨⟨⟨fun b e' hb => ?_, fun b τ hb => ?_⟩, ⟨Nat.le_trans hS.1 (by omega), fun x h1 h2 => (oq x (Nat.lt_of_lt_of_le h1 hS.1)).trans (hS.2.1 x h1 h2), hS.2.2⟩, fun q hq => ?_, hA⟩, n1, n2⟩
  · by_cases hab : b = H.size
    · subst hab
      rw [upS] at hb
      cases hb
      exact h1
    · rw [upN _ _ hab] at hb
      exact (hh.1 b e' hb).kept (oq b (hh.1 b e' hb).lt)
  · obtain ⟨e', g2, g3⟩ := hh.2 b τ hb
    exact ⟨e', g2.kept (oq b g2.lt), g3⟩
  · by_cases hab : q = H.size
    · subst hab
      exact hA _ hS.1
    · rw [upN _ _ hab] at hq
      exact hd q hq
/-- a cell known exactly gets a tag -/
theorem mS.re {D : va_G} {kA : Nat → ClassId} {M : mM} {T : mT} {A : Nat → Prop} {H0 H : Heap} {locs : List Loc} (h : mS D kA M T A H0 H locs) {a τ : Nat} {e : va_E} (he : M a = some e) (n2 : T a = none) (hc : conf kA (va_up T a (some τ)) τ e) : mS D kA (va_up M a none) (va_up T a (some τ)) A H0 H locs := by
  obtain ⟨hh, hS, hd, hA⟩ := h
  have hm : ∀ q τ', T q = some τ' → va_up T a (some τ) q = some τ' := fun q τ' hq => by
    have hab : q ≠ a := fun z => by rw [z, n2] at hq; cases hq
    rw [upN _ _ hab]; exact hq
  refine ⟨⟨fun b e' hb => ?_, fun b τ' hb => ?_⟩, hS, fun q hq => ?_, hA⟩
  · by_cases hab : b = a
    · subst hab
      rw [upS] at hb
      cases hb
    · rw [upN _ _ hab] at hb
      exact hh.1 b e' hb
  · by_cases hab : b = a
    · subst hab
      rw [upS] at hb
      cases hb
      exact ⟨e, hh.1 b e he, hc⟩
    · rw [upN _ _ hab] at hb
      obtain ⟨e', g2, g3⟩ := hh.2 b τ' hb
      exact ⟨e', g2, g3.mono hm⟩
  · by_cases hab : q = a
    · subst hab
      exact hd q (Or.inl (by rw [he]; simp))
    · rw [upN _ _ hab, upN _ _ hab] at hq
      exact hd q hq
/-- a tagged object is looked into: what it holds is known exactly from then on -/
theorem mS.unt {D : va_G} {kA : Nat → ClassId} {M : mM} {T : mT} {A : Nat → Prop} {H0 H : Heap} {locs : List Loc} (h : mS D kA M T A H0 H locs) {a τ ci : Nat} (ht : T a = some τ) {sps : List fS} (hsp : tsp τ = .inl (ci, sps)) : ∃ (M1 : mM) (fs : List Value), M1 a = some (.inr (ci, fs)) ∧ (∀ q, q ≠ a → M1 q = M q) ∧ conf kA T τ (.inr (ci, fs)) ∧ mS D kA M1 T A H0 H locs := by
  obtain ⟨hh, hS, hd, hA⟩ := h
  obtain ⟨e, h1, h2⟩ := hh.2 a τ ht
  have h3 := h2
  unfold conf at h3
  rw [hsp] at h3
  obtain ⟨fs, h4, h5, h6⟩ := h3
  subst h4
  refine ⟨va_up M a (some (.inr (ci, fs))), fs, upS _ _ _, fun _ hq => upN _ _ hq, h2, ⟨fun b e' hb => ?_, hh.2⟩, hS, fun q hq => ?_, hA⟩
  · by_cases hab : b = a
    · subst hab
      rw [upS] at hb
      cases hb
      exact h1
    · rw [upN _ _ hab] at hb
      exact hh.1 b e' hb
  · by_cases hab : q = a
    · subst hab
      exact hd q (Or.inr (by rw [ht]; simp))
    · rw [upN _ _ hab] at hq
      exact hd q hq
set_option maxRecDepth 100000 in
theorem inX1 : ∀ w ∈ u_ws RX1 TX1 19, w ∈ TB := TB_l [203, 205, 207, 209, 211, 213, 215, 217, 219, 221, 223, 225, 227, 229, 231, 233, 235, 237, 239] (by decide +kernel) (by decide +kernel)
set_option maxRecDepth 100000 in
theorem inX2 : ∀ w ∈ u_ws RX2 TX2 8, w ∈ TB := TB_l [68, 70, 72, 74, 76, 78, 80, 82] (by decide +kernel) (by decide +kernel)
set_option maxRecDepth 100000 in
theorem inX3 : ∀ w ∈ u_ws RX3 TX3 1, w ∈ TB := TB_l [370] (by decide +kernel) (by decide +kernel)
set_option maxRecDepth 100000 in
theorem inX4 : ∀ w ∈ u_ws RX4 TX4 10, w ∈ TB := TB_l [314, 316, 318, 320, 322, 324, 326, 328, 330, 332] (by decide +kernel) (by decide +kernel)
set_option maxRecDepth 100000 in
theorem inX5 : ∀ w ∈ u_ws RX5 TX5 4, w ∈ TB := TB_l [351, 353, 355, 357] (by decide +kernel) (by decide +kernel)
set_option maxRecDepth 100000 in
theorem inX6 : ∀ w ∈ u_ws RX6 TX6 11, w ∈ TB := TB_l [131, 133, 135, 137, 139, 141, 143, 145, 147, 149, 151] (by decide +kernel) (by decide +kernel)
set_option maxRecDepth 100000 in
theorem inX8 : ∀ w ∈ u_ws RX8 TX8 11, w ∈ TB := TB_l [268, 270, 272, 274, 276, 278, 280, 282, 284, 286, 288] (by decide +kernel) (by decide +kernel)
set_option maxRecDepth 100000 in
theorem inX9 : ∀ w ∈ u_ws RX9 TX9 5, w ∈ TB := TB_l [378, 380, 382, 384, 386] (by decide +kernel) (by decide +kernel)
set_option maxRecDepth 100000 in
theorem inX10 : ∀ w ∈ u_ws RX10 TX10 14, w ∈ TB := TB_l [975, 977, 979, 981, 983, 985, 987, 989, 991, 993, 995, 997, 999, 1001] (by decide +kernel) (by decide +kernel)
