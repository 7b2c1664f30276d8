section
-- ===== PART A: goes FIRST, ahead of the names: the tables' words, and 'selects' of the private methods out of them =====
/-- a private method of a class that the tables say can be made, by its rows of tables_1 -/
def lw_okq (q : MethodName × Nat) : Prop := (q.1.cls ≠ "java/lang/invoke/MethodHandle" ∧ q.1.cls ≠ "java/lang/invoke/VarHandle") ∧ Cond.instantiable q.1.cls q.2 ∈ tables_1 ∧ Cond.privateMethod q.1 ∈ tables_1 ∧ Cond.instanceMethod q.1 ∈ tables_1
theorem lw_p0 : lw_okq (⟨"BillRegistry$World", "addNumber", "(I)V"⟩, 11) := ⟨⟨by decide +kernel, by decide +kernel⟩, List.mem_of_getElem? (i := 29) (by decide +kernel), List.mem_of_getElem? (i := 398) (by decide +kernel), List.mem_of_getElem? (i := 399) (by decide +kernel)⟩
theorem lw_p1 : lw_okq (⟨"BillRegistry$Reader", "move", "()V"⟩, 10) := ⟨⟨by decide +kernel, by decide +kernel⟩, List.mem_of_getElem? (i := 293) (by decide +kernel), List.mem_of_getElem? (i := 418) (by decide +kernel), List.mem_of_getElem? (i := 419) (by decide +kernel)⟩
theorem lw_p2 : lw_okq (⟨"BillRegistry$Reader", "isLetter", "(I)Z"⟩, 10) := ⟨⟨by decide +kernel, by decide +kernel⟩, List.mem_of_getElem? (i := 293) (by decide +kernel), List.mem_of_getElem? (i := 422) (by decide +kernel), List.mem_of_getElem? (i := 423) (by decide +kernel)⟩
theorem lw_p3 : lw_okq (⟨"BillRegistry$Reader", "moveOverWord", "()V"⟩, 10) := ⟨⟨by decide +kernel, by decide +kernel⟩, List.mem_of_getElem? (i := 293) (by decide +kernel), List.mem_of_getElem? (i := 426) (by decide +kernel), List.mem_of_getElem? (i := 427) (by decide +kernel)⟩
theorem lw_p4 : lw_okq (⟨"BillRegistry$Reader", "isDigit", "(I)Z"⟩, 10) := ⟨⟨by decide +kernel, by decide +kernel⟩, List.mem_of_getElem? (i := 293) (by decide +kernel), List.mem_of_getElem? (i := 430) (by decide +kernel), List.mem_of_getElem? (i := 431) (by decide +kernel)⟩
theorem lw_p5 : lw_okq (⟨"BillRegistry$Reader", "moveOverNumber", "()V"⟩, 10) := ⟨⟨by decide +kernel, by decide +kernel⟩, List.mem_of_getElem? (i := 293) (by decide +kernel), List.mem_of_getElem? (i := 434) (by decide +kernel), List.mem_of_getElem? (i := 435) (by decide +kernel)⟩
theorem lw_p6 : lw_okq (⟨"BillRegistry$Reader", "readVerb", "()Z"⟩, 10) := ⟨⟨by decide +kernel, by decide +kernel⟩, List.mem_of_getElem? (i := 293) (by decide +kernel), List.mem_of_getElem? (i := 446) (by decide +kernel), List.mem_of_getElem? (i := 447) (by decide +kernel)⟩
theorem lw_p7 : lw_okq (⟨"BillRegistry$Reader", "isWord", "(Ljava/lang/String;)Z"⟩, 10) := ⟨⟨by decide +kernel, by decide +kernel⟩, List.mem_of_getElem? (i := 293) (by decide +kernel), List.mem_of_getElem? (i := 452) (by decide +kernel), List.mem_of_getElem? (i := 453) (by decide +kernel)⟩
theorem lw_p8 : lw_okq (⟨"BillRegistry", "reasonOfLine", "()I"⟩, 5) := ⟨⟨by decide +kernel, by decide +kernel⟩, List.mem_of_getElem? (i := 21) (by decide +kernel), List.mem_of_getElem? (i := 511) (by decide +kernel), List.mem_of_getElem? (i := 512) (by decide +kernel)⟩
theorem lw_p9 : lw_okq (⟨"BillRegistry$Chain", "own", "(II)V"⟩, 8) := ⟨⟨by decide +kernel, by decide +kernel⟩, List.mem_of_getElem? (i := 44) (by decide +kernel), List.mem_of_getElem? (i := 553) (by decide +kernel), List.mem_of_getElem? (i := 554) (by decide +kernel)⟩
theorem lw_p10 : lw_okq (⟨"BillRegistry$World", "whyNoStep", "(III)I"⟩, 11) := ⟨⟨by decide +kernel, by decide +kernel⟩, List.mem_of_getElem? (i := 29) (by decide +kernel), List.mem_of_getElem? (i := 576) (by decide +kernel), List.mem_of_getElem? (i := 577) (by decide +kernel)⟩
theorem lw_p11 : lw_okq (⟨"BillRegistry$Chain", "delivered", "(LBillRegistry$Step;)Z"⟩, 8) := ⟨⟨by decide +kernel, by decide +kernel⟩, List.mem_of_getElem? (i := 44) (by decide +kernel), List.mem_of_getElem? (i := 596) (by decide +kernel), List.mem_of_getElem? (i := 597) (by decide +kernel)⟩
theorem lw_p12 : lw_okq (⟨"BillRegistry$Chain", "endorsed", "(LBillRegistry$Step;IZ)Z"⟩, 8) := ⟨⟨by decide +kernel, by decide +kernel⟩, List.mem_of_getElem? (i := 44) (by decide +kernel), List.mem_of_getElem? (i := 600) (by decide +kernel), List.mem_of_getElem? (i := 601) (by decide +kernel)⟩
theorem lw_p13 : lw_okq (⟨"BillRegistry$Chain", "breakAt", "(II)V"⟩, 8) := ⟨⟨by decide +kernel, by decide +kernel⟩, List.mem_of_getElem? (i := 44) (by decide +kernel), List.mem_of_getElem? (i := 604) (by decide +kernel), List.mem_of_getElem? (i := 605) (by decide +kernel)⟩
theorem lw_p14 : lw_okq (⟨"BillRegistry$Chain", "give", "(LBillRegistry$Step;)V"⟩, 8) := ⟨⟨by decide +kernel, by decide +kernel⟩, List.mem_of_getElem? (i := 44) (by decide +kernel), List.mem_of_getElem? (i := 612) (by decide +kernel), List.mem_of_getElem? (i := 613) (by decide +kernel)⟩
theorem lw_p15 : lw_okq (⟨"BillRegistry$Chain", "gradeOf", "(LBillRegistry$Step;)I"⟩, 8) := ⟨⟨by decide +kernel, by decide +kernel⟩, List.mem_of_getElem? (i := 44) (by decide +kernel), List.mem_of_getElem? (i := 616) (by decide +kernel), List.mem_of_getElem? (i := 617) (by decide +kernel)⟩
def lw_privs_1 : List (MethodName × Nat) := [(⟨"BillRegistry$World", "addNumber", "(I)V"⟩, 11), (⟨"BillRegistry$Reader", "move", "()V"⟩, 10), (⟨"BillRegistry$Reader", "isLetter", "(I)Z"⟩, 10), (⟨"BillRegistry$Reader", "moveOverWord", "()V"⟩, 10), (⟨"BillRegistry$Reader", "isDigit", "(I)Z"⟩, 10), (⟨"BillRegistry$Reader", "moveOverNumber", "()V"⟩, 10), (⟨"BillRegistry$Reader", "readVerb", "()Z"⟩, 10), (⟨"BillRegistry$Reader", "isWord", "(Ljava/lang/String;)Z"⟩, 10), (⟨"BillRegistry", "reasonOfLine", "()I"⟩, 5), (⟨"BillRegistry$Chain", "own", "(II)V"⟩, 8), (⟨"BillRegistry$World", "whyNoStep", "(III)I"⟩, 11), (⟨"BillRegistry$Chain", "delivered", "(LBillRegistry$Step;)Z"⟩, 8), (⟨"BillRegistry$Chain", "endorsed", "(LBillRegistry$Step;IZ)Z"⟩, 8), (⟨"BillRegistry$Chain", "breakAt", "(II)V"⟩, 8), (⟨"BillRegistry$Chain", "give", "(LBillRegistry$Step;)V"⟩, 8), (⟨"BillRegistry$Chain", "gradeOf", "(LBillRegistry$Step;)I"⟩, 8)]
theorem lw_r1 : ∀ q ∈ lw_privs_1, lw_okq q := List.forall_mem_cons.mpr ⟨lw_p0, List.forall_mem_cons.mpr ⟨lw_p1, List.forall_mem_cons.mpr ⟨lw_p2, List.forall_mem_cons.mpr ⟨lw_p3, List.forall_mem_cons.mpr ⟨lw_p4, List.forall_mem_cons.mpr ⟨lw_p5, List.forall_mem_cons.mpr ⟨lw_p6, List.forall_mem_cons.mpr ⟨lw_p7, List.forall_mem_cons.mpr ⟨lw_p8, List.forall_mem_cons.mpr ⟨lw_p9, List.forall_mem_cons.mpr ⟨lw_p10, List.forall_mem_cons.mpr ⟨lw_p11, List.forall_mem_cons.mpr ⟨lw_p12, List.forall_mem_cons.mpr ⟨lw_p13, List.forall_mem_cons.mpr ⟨lw_p14, List.forall_mem_cons.mpr ⟨lw_p15, fun _ h => absurd h List.not_mem_nil⟩⟩⟩⟩⟩⟩⟩⟩⟩⟩⟩⟩⟩⟩⟩⟩
theorem lw_p16 : lw_okq (⟨"BillRegistry$Bill", "defenceOf", "(I)I"⟩, 19) := ⟨⟨by decide +kernel, by decide +kernel⟩, List.mem_of_getElem? (i := 36) (by decide +kernel), List.mem_of_getElem? (i := 688) (by decide +kernel), List.mem_of_getElem? (i := 689) (by decide +kernel)⟩
theorem lw_p17 : lw_okq (⟨"BillRegistryModel", "begins", "()V"⟩, 14) := ⟨⟨by decide +kernel, by decide +kernel⟩, List.mem_of_getElem? (i := 952) (by decide +kernel), List.mem_of_getElem? (i := 958) (by decide +kernel), List.mem_of_getElem? (i := 959) (by decide +kernel)⟩
theorem lw_p18 : lw_okq (⟨"BillRegistryModel", "days", "(I)I"⟩, 14) := ⟨⟨by decide +kernel, by decide +kernel⟩, List.mem_of_getElem? (i := 952) (by decide +kernel), List.mem_of_getElem? (i := 1010) (by decide +kernel), List.mem_of_getElem? (i := 1011) (by decide +kernel)⟩
theorem lw_p19 : lw_okq (⟨"BillRegistryModel", "told", "(I)I"⟩, 14) := ⟨⟨by decide +kernel, by decide +kernel⟩, List.mem_of_getElem? (i := 952) (by decide +kernel), List.mem_of_getElem? (i := 1017) (by decide +kernel), List.mem_of_getElem? (i := 1018) (by decide +kernel)⟩
theorem lw_p20 : lw_okq (⟨"BillRegistryModel", "hasNow", "(II)I"⟩, 14) := ⟨⟨by decide +kernel, by decide +kernel⟩, List.mem_of_getElem? (i := 952) (by decide +kernel), List.mem_of_getElem? (i := 1025) (by decide +kernel), List.mem_of_getElem? (i := 1026) (by decide +kernel)⟩
theorem lw_p21 : lw_okq (⟨"BillRegistryModel", "graces", "(I)I"⟩, 14) := ⟨⟨by decide +kernel, by decide +kernel⟩, List.mem_of_getElem? (i := 952) (by decide +kernel), List.mem_of_getElem? (i := 1036) (by decide +kernel), List.mem_of_getElem? (i := 1037) (by decide +kernel)⟩
theorem lw_p22 : lw_okq (⟨"BillRegistryModel", "draws", "(IIIZII)I"⟩, 14) := ⟨⟨by decide +kernel, by decide +kernel⟩, List.mem_of_getElem? (i := 952) (by decide +kernel), List.mem_of_getElem? (i := 1044) (by decide +kernel), List.mem_of_getElem? (i := 1045) (by decide +kernel)⟩
theorem lw_p23 : lw_okq (⟨"BillRegistryModel", "clears", "(I)V"⟩, 14) := ⟨⟨by decide +kernel, by decide +kernel⟩, List.mem_of_getElem? (i := 952) (by decide +kernel), List.mem_of_getElem? (i := 1054) (by decide +kernel), List.mem_of_getElem? (i := 1055) (by decide +kernel)⟩
theorem lw_p24 : lw_okq (⟨"BillRegistryModel", "startsChain", "(I)V"⟩, 14) := ⟨⟨by decide +kernel, by decide +kernel⟩, List.mem_of_getElem? (i := 952) (by decide +kernel), List.mem_of_getElem? (i := 1058) (by decide +kernel), List.mem_of_getElem? (i := 1059) (by decide +kernel)⟩
theorem lw_p25 : lw_okq (⟨"BillRegistryModel", "accepts", "(I)I"⟩, 14) := ⟨⟨by decide +kernel, by decide +kernel⟩, List.mem_of_getElem? (i := 952) (by decide +kernel), List.mem_of_getElem? (i := 1066) (by decide +kernel), List.mem_of_getElem? (i := 1067) (by decide +kernel)⟩
theorem lw_p26 : lw_okq (⟨"BillRegistryModel", "isBill", "(I)Z"⟩, 14) := ⟨⟨by decide +kernel, by decide +kernel⟩, List.mem_of_getElem? (i := 952) (by decide +kernel), List.mem_of_getElem? (i := 1070) (by decide +kernel), List.mem_of_getElem? (i := 1071) (by decide +kernel)⟩
theorem lw_p27 : lw_okq (⟨"BillRegistryModel", "passes", "(IIZIIZ)I"⟩, 14) := ⟨⟨by decide +kernel, by decide +kernel⟩, List.mem_of_getElem? (i := 952) (by decide +kernel), List.mem_of_getElem? (i := 1078) (by decide +kernel), List.mem_of_getElem? (i := 1079) (by decide +kernel)⟩
theorem lw_p28 : lw_okq (⟨"BillRegistryModel", "stepReason", "(III)I"⟩, 14) := ⟨⟨by decide +kernel, by decide +kernel⟩, List.mem_of_getElem? (i := 952) (by decide +kernel), List.mem_of_getElem? (i := 1082) (by decide +kernel), List.mem_of_getElem? (i := 1083) (by decide +kernel)⟩
theorem lw_p29 : lw_okq (⟨"BillRegistryModel", "steps", "(IIIIIIIZZ)I"⟩, 14) := ⟨⟨by decide +kernel, by decide +kernel⟩, List.mem_of_getElem? (i := 952) (by decide +kernel), List.mem_of_getElem? (i := 1086) (by decide +kernel), List.mem_of_getElem? (i := 1087) (by decide +kernel)⟩
theorem lw_p30 : lw_okq (⟨"BillRegistryModel", "goes", "(IIZ)V"⟩, 14) := ⟨⟨by decide +kernel, by decide +kernel⟩, List.mem_of_getElem? (i := 952) (by decide +kernel), List.mem_of_getElem? (i := 1093) (by decide +kernel), List.mem_of_getElem? (i := 1094) (by decide +kernel)⟩
theorem lw_p31 : lw_okq (⟨"BillRegistryModel", "gets", "(II)V"⟩, 14) := ⟨⟨by decide +kernel, by decide +kernel⟩, List.mem_of_getElem? (i := 952) (by decide +kernel), List.mem_of_getElem? (i := 1097) (by decide +kernel), List.mem_of_getElem? (i := 1098) (by decide +kernel)⟩
def lw_privs_2 : List (MethodName × Nat) := [(⟨"BillRegistry$Bill", "defenceOf", "(I)I"⟩, 19), (⟨"BillRegistryModel", "begins", "()V"⟩, 14), (⟨"BillRegistryModel", "days", "(I)I"⟩, 14), (⟨"BillRegistryModel", "told", "(I)I"⟩, 14), (⟨"BillRegistryModel", "hasNow", "(II)I"⟩, 14), (⟨"BillRegistryModel", "graces", "(I)I"⟩, 14), (⟨"BillRegistryModel", "draws", "(IIIZII)I"⟩, 14), (⟨"BillRegistryModel", "clears", "(I)V"⟩, 14), (⟨"BillRegistryModel", "startsChain", "(I)V"⟩, 14), (⟨"BillRegistryModel", "accepts", "(I)I"⟩, 14), (⟨"BillRegistryModel", "isBill", "(I)Z"⟩, 14), (⟨"BillRegistryModel", "passes", "(IIZIIZ)I"⟩, 14), (⟨"BillRegistryModel", "stepReason", "(III)I"⟩, 14), (⟨"BillRegistryModel", "steps", "(IIIIIIIZZ)I"⟩, 14), (⟨"BillRegistryModel", "goes", "(IIZ)V"⟩, 14), (⟨"BillRegistryModel", "gets", "(II)V"⟩, 14)]
theorem lw_r2 : ∀ q ∈ lw_privs_2, lw_okq q := List.forall_mem_cons.mpr ⟨lw_p16, List.forall_mem_cons.mpr ⟨lw_p17, List.forall_mem_cons.mpr ⟨lw_p18, List.forall_mem_cons.mpr ⟨lw_p19, List.forall_mem_cons.mpr ⟨lw_p20, List.forall_mem_cons.mpr ⟨lw_p21, List.forall_mem_cons.mpr ⟨lw_p22, List.forall_mem_cons.mpr ⟨lw_p23, List.forall_mem_cons.mpr ⟨lw_p24, List.forall_mem_cons.mpr ⟨lw_p25, List.forall_mem_cons.mpr ⟨lw_p26, List.forall_mem_cons.mpr ⟨lw_p27, List.forall_mem_cons.mpr ⟨lw_p28, List.forall_mem_cons.mpr ⟨lw_p29, List.forall_mem_cons.mpr ⟨lw_p30, List.forall_mem_cons.mpr ⟨lw_p31, fun _ h => absurd h List.not_mem_nil⟩⟩⟩⟩⟩⟩⟩⟩⟩⟩⟩⟩⟩⟩⟩⟩
theorem lw_p32 : lw_okq (⟨"BillRegistryModel", "owns", "(III)V"⟩, 14) := ⟨⟨by decide +kernel, by decide +kernel⟩, List.mem_of_getElem? (i := 952) (by decide +kernel), List.mem_of_getElem? (i := 1101) (by decide +kernel), List.mem_of_getElem? (i := 1102) (by decide +kernel)⟩
theorem lw_p33 : lw_okq (⟨"BillRegistryModel", "endorses", "(IIZ)V"⟩, 14) := ⟨⟨by decide +kernel, by decide +kernel⟩, List.mem_of_getElem? (i := 952) (by decide +kernel), List.mem_of_getElem? (i := 1105) (by decide +kernel), List.mem_of_getElem? (i := 1106) (by decide +kernel)⟩
theorem lw_p34 : lw_okq (⟨"BillRegistryModel", "forges", "(IIIIZ)I"⟩, 14) := ⟨⟨by decide +kernel, by decide +kernel⟩, List.mem_of_getElem? (i := 952) (by decide +kernel), List.mem_of_getElem? (i := 1113) (by decide +kernel), List.mem_of_getElem? (i := 1114) (by decide +kernel)⟩
theorem lw_p35 : lw_okq (⟨"BillRegistryModel", "finds", "(II)I"⟩, 14) := ⟨⟨by decide +kernel, by decide +kernel⟩, List.mem_of_getElem? (i := 952) (by decide +kernel), List.mem_of_getElem? (i := 1121) (by decide +kernel), List.mem_of_getElem? (i := 1122) (by decide +kernel)⟩
theorem lw_p36 : lw_okq (⟨"BillRegistryModel", "defends", "(IIZ)I"⟩, 14) := ⟨⟨by decide +kernel, by decide +kernel⟩, List.mem_of_getElem? (i := 952) (by decide +kernel), List.mem_of_getElem? (i := 1129) (by decide +kernel), List.mem_of_getElem? (i := 1130) (by decide +kernel)⟩
theorem lw_p37 : lw_okq (⟨"BillRegistryModel", "isSigned", "(II)Z"⟩, 14) := ⟨⟨by decide +kernel, by decide +kernel⟩, List.mem_of_getElem? (i := 952) (by decide +kernel), List.mem_of_getElem? (i := 1133) (by decide +kernel), List.mem_of_getElem? (i := 1134) (by decide +kernel)⟩
theorem lw_p38 : lw_okq (⟨"BillRegistryModel", "isParty", "(II)Z"⟩, 14) := ⟨⟨by decide +kernel, by decide +kernel⟩, List.mem_of_getElem? (i := 952) (by decide +kernel), List.mem_of_getElem? (i := 1137) (by decide +kernel), List.mem_of_getElem? (i := 1138) (by decide +kernel)⟩
theorem lw_p39 : lw_okq (⟨"BillRegistryModel", "hasSigned", "(II)Z"⟩, 14) := ⟨⟨by decide +kernel, by decide +kernel⟩, List.mem_of_getElem? (i := 952) (by decide +kernel), List.mem_of_getElem? (i := 1141) (by decide +kernel), List.mem_of_getElem? (i := 1142) (by decide +kernel)⟩
theorem lw_p40 : lw_okq (⟨"BillRegistryModel", "who", "(II)I"⟩, 14) := ⟨⟨by decide +kernel, by decide +kernel⟩, List.mem_of_getElem? (i := 952) (by decide +kernel), List.mem_of_getElem? (i := 1145) (by decide +kernel), List.mem_of_getElem? (i := 1146) (by decide +kernel)⟩
theorem lw_p41 : lw_okq (⟨"BillRegistryModel", "presents", "(I)I"⟩, 14) := ⟨⟨by decide +kernel, by decide +kernel⟩, List.mem_of_getElem? (i := 952) (by decide +kernel), List.mem_of_getElem? (i := 1153) (by decide +kernel), List.mem_of_getElem? (i := 1154) (by decide +kernel)⟩
theorem lw_p42 : lw_okq (⟨"BillRegistryModel", "hasTitle", "(I)Z"⟩, 14) := ⟨⟨by decide +kernel, by decide +kernel⟩, List.mem_of_getElem? (i := 952) (by decide +kernel), List.mem_of_getElem? (i := 1157) (by decide +kernel), List.mem_of_getElem? (i := 1158) (by decide +kernel)⟩
theorem lw_p43 : lw_okq (⟨"BillRegistryModel", "pays", "(III)I"⟩, 14) := ⟨⟨by decide +kernel, by decide +kernel⟩, List.mem_of_getElem? (i := 952) (by decide +kernel), List.mem_of_getElem? (i := 1161) (by decide +kernel), List.mem_of_getElem? (i := 1162) (by decide +kernel)⟩
theorem lw_p44 : lw_okq (⟨"BillRegistryModel", "reason", "(III)I"⟩, 14) := ⟨⟨by decide +kernel, by decide +kernel⟩, List.mem_of_getElem? (i := 952) (by decide +kernel), List.mem_of_getElem? (i := 1165) (by decide +kernel), List.mem_of_getElem? (i := 1166) (by decide +kernel)⟩
theorem lw_p45 : lw_okq (⟨"BillRegistryModel", "rank", "(I)I"⟩, 14) := ⟨⟨by decide +kernel, by decide +kernel⟩, List.mem_of_getElem? (i := 952) (by decide +kernel), List.mem_of_getElem? (i := 1169) (by decide +kernel), List.mem_of_getElem? (i := 1170) (by decide +kernel)⟩
theorem lw_p46 : lw_okq (⟨"BillRegistryModel", "hasCash", "(III)Z"⟩, 14) := ⟨⟨by decide +kernel, by decide +kernel⟩, List.mem_of_getElem? (i := 952) (by decide +kernel), List.mem_of_getElem? (i := 1173) (by decide +kernel), List.mem_of_getElem? (i := 1174) (by decide +kernel)⟩
theorem lw_p47 : lw_okq (⟨"BillRegistryModel", "frees", "(III)V"⟩, 14) := ⟨⟨by decide +kernel, by decide +kernel⟩, List.mem_of_getElem? (i := 952) (by decide +kernel), List.mem_of_getElem? (i := 1177) (by decide +kernel), List.mem_of_getElem? (i := 1178) (by decide +kernel)⟩
def lw_privs_3 : List (MethodName × Nat) := [(⟨"BillRegistryModel", "owns", "(III)V"⟩, 14), (⟨"BillRegistryModel", "endorses", "(IIZ)V"⟩, 14), (⟨"BillRegistryModel", "forges", "(IIIIZ)I"⟩, 14), (⟨"BillRegistryModel", "finds", "(II)I"⟩, 14), (⟨"BillRegistryModel", "defends", "(IIZ)I"⟩, 14), (⟨"BillRegistryModel", "isSigned", "(II)Z"⟩, 14), (⟨"BillRegistryModel", "isParty", "(II)Z"⟩, 14), (⟨"BillRegistryModel", "hasSigned", "(II)Z"⟩, 14), (⟨"BillRegistryModel", "who", "(II)I"⟩, 14), (⟨"BillRegistryModel", "presents", "(I)I"⟩, 14), (⟨"BillRegistryModel", "hasTitle", "(I)Z"⟩, 14), (⟨"BillRegistryModel", "pays", "(III)I"⟩, 14), (⟨"BillRegistryModel", "reason", "(III)I"⟩, 14), (⟨"BillRegistryModel", "rank", "(I)I"⟩, 14), (⟨"BillRegistryModel", "hasCash", "(III)Z"⟩, 14), (⟨"BillRegistryModel", "frees", "(III)V"⟩, 14)]
theorem lw_r3 : ∀ q ∈ lw_privs_3, lw_okq q := List.forall_mem_cons.mpr ⟨lw_p32, List.forall_mem_cons.mpr ⟨lw_p33, List.forall_mem_cons.mpr ⟨lw_p34, List.forall_mem_cons.mpr ⟨lw_p35, List.forall_mem_cons.mpr ⟨lw_p36, List.forall_mem_cons.mpr ⟨lw_p37, List.forall_mem_cons.mpr ⟨lw_p38, List.forall_mem_cons.mpr ⟨lw_p39, List.forall_mem_cons.mpr ⟨lw_p40, List.forall_mem_cons.mpr ⟨lw_p41, List.forall_mem_cons.mpr ⟨lw_p42, List.forall_mem_cons.mpr ⟨lw_p43, List.forall_mem_cons.mpr ⟨lw_p44, List.forall_mem_cons.mpr ⟨lw_p45, List.forall_mem_cons.mpr ⟨lw_p46, List.forall_mem_cons.mpr ⟨lw_p47, fun _ h => absurd h List.not_mem_nil⟩⟩⟩⟩⟩⟩⟩⟩⟩⟩⟩⟩⟩⟩⟩⟩
theorem lw_p48 : lw_okq (⟨"BillRegistryModel", "notifies", "(III)I"⟩, 14) := ⟨⟨by decide +kernel, by decide +kernel⟩, List.mem_of_getElem? (i := 952) (by decide +kernel), List.mem_of_getElem? (i := 1185) (by decide +kernel), List.mem_of_getElem? (i := 1186) (by decide +kernel)⟩
theorem lw_p49 : lw_okq (⟨"BillRegistryModel", "isInTime", "(II)Z"⟩, 14) := ⟨⟨by decide +kernel, by decide +kernel⟩, List.mem_of_getElem? (i := 952) (by decide +kernel), List.mem_of_getElem? (i := 1189) (by decide +kernel), List.mem_of_getElem? (i := 1190) (by decide +kernel)⟩
theorem lw_p50 : lw_okq (⟨"BillRegistryModel", "releases", "(II)I"⟩, 14) := ⟨⟨by decide +kernel, by decide +kernel⟩, List.mem_of_getElem? (i := 952) (by decide +kernel), List.mem_of_getElem? (i := 1197) (by decide +kernel), List.mem_of_getElem? (i := 1198) (by decide +kernel)⟩
theorem lw_p51 : lw_okq (⟨"BillRegistryModel", "paysNow", "(II)I"⟩, 14) := ⟨⟨by decide +kernel, by decide +kernel⟩, List.mem_of_getElem? (i := 952) (by decide +kernel), List.mem_of_getElem? (i := 1205) (by decide +kernel), List.mem_of_getElem? (i := 1206) (by decide +kernel)⟩
theorem lw_p52 : lw_okq (⟨"BillRegistryModel", "billsThat", "(I)I"⟩, 14) := ⟨⟨by decide +kernel, by decide +kernel⟩, List.mem_of_getElem? (i := 952) (by decide +kernel), List.mem_of_getElem? (i := 1213) (by decide +kernel), List.mem_of_getElem? (i := 1214) (by decide +kernel)⟩
theorem lw_p53 : lw_okq (⟨"BillRegistryModel", "cure", "(I)I"⟩, 14) := ⟨⟨by decide +kernel, by decide +kernel⟩, List.mem_of_getElem? (i := 952) (by decide +kernel), List.mem_of_getElem? (i := 1225) (by decide +kernel), List.mem_of_getElem? (i := 1226) (by decide +kernel)⟩
theorem lw_p54 : lw_okq (⟨"BillRegistryModel", "isCured", "(II)Z"⟩, 14) := ⟨⟨by decide +kernel, by decide +kernel⟩, List.mem_of_getElem? (i := 952) (by decide +kernel), List.mem_of_getElem? (i := 1232) (by decide +kernel), List.mem_of_getElem? (i := 1233) (by decide +kernel)⟩
theorem lw_p55 : lw_okq (⟨"BillRegistryModel", "isStep", "(II)Z"⟩, 14) := ⟨⟨by decide +kernel, by decide +kernel⟩, List.mem_of_getElem? (i := 952) (by decide +kernel), List.mem_of_getElem? (i := 1240) (by decide +kernel), List.mem_of_getElem? (i := 1241) (by decide +kernel)⟩
theorem lw_p56 : lw_okq (⟨"BillRegistryModel", "cause", "(III)I"⟩, 14) := ⟨⟨by decide +kernel, by decide +kernel⟩, List.mem_of_getElem? (i := 952) (by decide +kernel), List.mem_of_getElem? (i := 1252) (by decide +kernel), List.mem_of_getElem? (i := 1253) (by decide +kernel)⟩
theorem lw_p57 : lw_okq (⟨"BillRegistryModel", "reachOf", "(II)I"⟩, 14) := ⟨⟨by decide +kernel, by decide +kernel⟩, List.mem_of_getElem? (i := 952) (by decide +kernel), List.mem_of_getElem? (i := 1256) (by decide +kernel), List.mem_of_getElem? (i := 1257) (by decide +kernel)⟩
theorem lw_p58 : lw_okq (⟨"BillRegistryModel", "liableBits", "(II)I"⟩, 14) := ⟨⟨by decide +kernel, by decide +kernel⟩, List.mem_of_getElem? (i := 952) (by decide +kernel), List.mem_of_getElem? (i := 1264) (by decide +kernel), List.mem_of_getElem? (i := 1265) (by decide +kernel)⟩
theorem lw_p59 : lw_okq (⟨"BillRegistryModel", "runs", "(I)I"⟩, 14) := ⟨⟨by decide +kernel, by decide +kernel⟩, List.mem_of_getElem? (i := 952) (by decide +kernel), List.mem_of_getElem? (i := 1276) (by decide +kernel), List.mem_of_getElem? (i := 1277) (by decide +kernel)⟩
theorem lw_p60 : lw_okq (⟨"BillRegistryModel", "copies", "(II)V"⟩, 14) := ⟨⟨by decide +kernel, by decide +kernel⟩, List.mem_of_getElem? (i := 952) (by decide +kernel), List.mem_of_getElem? (i := 1280) (by decide +kernel), List.mem_of_getElem? (i := 1281) (by decide +kernel)⟩
theorem lw_p61 : lw_okq (⟨"BillRegistryModel", "payer", "(II)I"⟩, 14) := ⟨⟨by decide +kernel, by decide +kernel⟩, List.mem_of_getElem? (i := 952) (by decide +kernel), List.mem_of_getElem? (i := 1284) (by decide +kernel), List.mem_of_getElem? (i := 1285) (by decide +kernel)⟩
theorem lw_p62 : lw_okq (⟨"BillRegistryModel", "takes", "()V"⟩, 14) := ⟨⟨by decide +kernel, by decide +kernel⟩, List.mem_of_getElem? (i := 952) (by decide +kernel), List.mem_of_getElem? (i := 1324) (by decide +kernel), List.mem_of_getElem? (i := 1325) (by decide +kernel)⟩
theorem lw_p63 : lw_okq (⟨"BillRegistryModel", "byteAt", "(I)I"⟩, 14) := ⟨⟨by decide +kernel, by decide +kernel⟩, List.mem_of_getElem? (i := 952) (by decide +kernel), List.mem_of_getElem? (i := 1328) (by decide +kernel), List.mem_of_getElem? (i := 1329) (by decide +kernel)⟩
def lw_privs_4 : List (MethodName × Nat) := [(⟨"BillRegistryModel", "notifies", "(III)I"⟩, 14), (⟨"BillRegistryModel", "isInTime", "(II)Z"⟩, 14), (⟨"BillRegistryModel", "releases", "(II)I"⟩, 14), (⟨"BillRegistryModel", "paysNow", "(II)I"⟩, 14), (⟨"BillRegistryModel", "billsThat", "(I)I"⟩, 14), (⟨"BillRegistryModel", "cure", "(I)I"⟩, 14), (⟨"BillRegistryModel", "isCured", "(II)Z"⟩, 14), (⟨"BillRegistryModel", "isStep", "(II)Z"⟩, 14), (⟨"BillRegistryModel", "cause", "(III)I"⟩, 14), (⟨"BillRegistryModel", "reachOf", "(II)I"⟩, 14), (⟨"BillRegistryModel", "liableBits", "(II)I"⟩, 14), (⟨"BillRegistryModel", "runs", "(I)I"⟩, 14), (⟨"BillRegistryModel", "copies", "(II)V"⟩, 14), (⟨"BillRegistryModel", "payer", "(II)I"⟩, 14), (⟨"BillRegistryModel", "takes", "()V"⟩, 14), (⟨"BillRegistryModel", "byteAt", "(I)I"⟩, 14)]
theorem lw_r4 : ∀ q ∈ lw_privs_4, lw_okq q := List.forall_mem_cons.mpr ⟨lw_p48, List.forall_mem_cons.mpr ⟨lw_p49, List.forall_mem_cons.mpr ⟨lw_p50, List.forall_mem_cons.mpr ⟨lw_p51, List.forall_mem_cons.mpr ⟨lw_p52, List.forall_mem_cons.mpr ⟨lw_p53, List.forall_mem_cons.mpr ⟨lw_p54, List.forall_mem_cons.mpr ⟨lw_p55, List.forall_mem_cons.mpr ⟨lw_p56, List.forall_mem_cons.mpr ⟨lw_p57, List.forall_mem_cons.mpr ⟨lw_p58, List.forall_mem_cons.mpr ⟨lw_p59, List.forall_mem_cons.mpr ⟨lw_p60, List.forall_mem_cons.mpr ⟨lw_p61, List.forall_mem_cons.mpr ⟨lw_p62, List.forall_mem_cons.mpr ⟨lw_p63, fun _ h => absurd h List.not_mem_nil⟩⟩⟩⟩⟩⟩⟩⟩⟩⟩⟩⟩⟩⟩⟩⟩
theorem lw_p64 : lw_okq (⟨"BillRegistryModel", "readsLine", "()V"⟩, 14) := ⟨⟨by decide +kernel, by decide +kernel⟩, List.mem_of_getElem? (i := 952) (by decide +kernel), List.mem_of_getElem? (i := 1342) (by decide +kernel), List.mem_of_getElem? (i := 1343) (by decide +kernel)⟩
theorem lw_p65 : lw_okq (⟨"BillRegistryModel", "isLine", "(JII)Z"⟩, 14) := ⟨⟨by decide +kernel, by decide +kernel⟩, List.mem_of_getElem? (i := 952) (by decide +kernel), List.mem_of_getElem? (i := 1350) (by decide +kernel), List.mem_of_getElem? (i := 1351) (by decide +kernel)⟩
theorem lw_p66 : lw_okq (⟨"BillRegistryModel", "hasWord", "(J)Z"⟩, 14) := ⟨⟨by decide +kernel, by decide +kernel⟩, List.mem_of_getElem? (i := 952) (by decide +kernel), List.mem_of_getElem? (i := 1354) (by decide +kernel), List.mem_of_getElem? (i := 1355) (by decide +kernel)⟩
theorem lw_p67 : lw_okq (⟨"BillRegistryModel", "fails", "()V"⟩, 14) := ⟨⟨by decide +kernel, by decide +kernel⟩, List.mem_of_getElem? (i := 952) (by decide +kernel), List.mem_of_getElem? (i := 1358) (by decide +kernel), List.mem_of_getElem? (i := 1359) (by decide +kernel)⟩
theorem lw_p68 : lw_okq (⟨"BillRegistryModel", "done", "(I)I"⟩, 14) := ⟨⟨by decide +kernel, by decide +kernel⟩, List.mem_of_getElem? (i := 952) (by decide +kernel), List.mem_of_getElem? (i := 1364) (by decide +kernel), List.mem_of_getElem? (i := 1365) (by decide +kernel)⟩
def lw_privs_5 : List (MethodName × Nat) := [(⟨"BillRegistryModel", "readsLine", "()V"⟩, 14), (⟨"BillRegistryModel", "isLine", "(JII)Z"⟩, 14), (⟨"BillRegistryModel", "hasWord", "(J)Z"⟩, 14), (⟨"BillRegistryModel", "fails", "()V"⟩, 14), (⟨"BillRegistryModel", "done", "(I)I"⟩, 14)]
theorem lw_r5 : ∀ q ∈ lw_privs_5, lw_okq q := List.forall_mem_cons.mpr ⟨lw_p64, List.forall_mem_cons.mpr ⟨lw_p65, List.forall_mem_cons.mpr ⟨lw_p66, List.forall_mem_cons.mpr ⟨lw_p67, List.forall_mem_cons.mpr ⟨lw_p68, fun _ h => absurd h List.not_mem_nil⟩⟩⟩⟩⟩
def lw_privs : List (MethodName × Nat) := lw_privs_1 ++ (lw_privs_2 ++ (lw_privs_3 ++ (lw_privs_4 ++ (lw_privs_5))))
def lw_tbl : List Cond := k2_sels lw_privs ++ tables_1
theorem lw_privs_ok : ∀ q ∈ lw_privs, lw_okq q := by
  show ∀ q ∈ lw_privs_1 ++ (lw_privs_2 ++ (lw_privs_3 ++ (lw_privs_4 ++ (lw_privs_5)))), lw_okq q
  exact List.forall_mem_append.mpr ⟨lw_r1, List.forall_mem_append.mpr ⟨lw_r2, List.forall_mem_append.mpr ⟨lw_r3, List.forall_mem_append.mpr ⟨lw_r4, lw_r5⟩⟩⟩⟩
-- names, as printed
def RX0 : String := "BillRegistry$1"
def TX0 : u_T := fun k => match k with
  | _ => ("", "", "", false)
def tyX0 : Nat → FieldType := fun k => match k with
  | _ => .int
theorem nmX0 : ∀ a, a < 0 → ∀ b, b < 0 → a ≠ b → (TX0 a).2.1 ≠ (TX0 b).2.1 := by decide +kernel
theorem tyX0_ok : ∀ k, k < 0 → parseFieldDescriptor (TX0 k).2.2.1 = some (tyX0 k) := by decide +kernel
def RX1 : String := "BillRegistry$Bill"
def TX1 : u_T := fun k => match k with
  | 0 => ("BillRegistry$Bill", "drawer", "I", false)
  | 1 => ("BillRegistry$Bill", "drawee", "I", false)
  | 2 => ("BillRegistry$Bill", "payee", "I", false)
  | 3 => ("BillRegistry$Bill", "sum", "I", false)
  | 4 => ("BillRegistry$Bill", "due", "I", false)
  | 5 => ("BillRegistry$Bill", "hand", "I", false)
  | 6 => ("BillRegistry$Bill", "dishonour", "I", false)
  | 7 => ("BillRegistry$Bill", "stepCount", "I", false)
  | 8 => ("BillRegistry$Bill", "startStep", "I", false)
  | 9 => ("BillRegistry$Bill", "open", "Z", false)
  | 10 => ("BillRegistry$Bill", "accepted", "Z", false)
  | 11 => ("BillRegistry$Bill", "done", "Z", false)
  | 12 => ("BillRegistry$Bill", "steps", "[LBillRegistry$Step;", true)
  | 13 => ("BillRegistry$Bill", "chain", "LBillRegistry$Chain;", true)
  | 14 => ("BillRegistry$Bill", "start", "LBillRegistry$Chain;", true)
  | 15 => ("BillRegistry$Bill", "notified", "[I", true)
  | 16 => ("BillRegistry$Bill", "freedOf", "[I", true)
  | 17 => ("BillRegistry$Bill", "freedBy", "[I", true)
  | _ => ("BillRegistry$Bill", "defences", "[I", true)
def tyX1 : Nat → FieldType := fun k => match k with
  | 0 => .int
  | 1 => .int
  | 2 => .int
  | 3 => .int
  | 4 => .int
  | 5 => .int
  | 6 => .int
  | 7 => .int
  | 8 => .int
  | 9 => .boolean
  | 10 => .boolean
  | 11 => .boolean
  | 12 => .array (.object "BillRegistry$Step")
  | 13 => .object "BillRegistry$Chain"
  | 14 => .object "BillRegistry$Chain"
  | 15 => .array .int
  | 16 => .array .int
  | 17 => .array .int
  | _ => .array .int
theorem nmX1 : ∀ a, a < 19 → ∀ b, b < 19 → a ≠ b → (TX1 a).2.1 ≠ (TX1 b).2.1 := by decide +kernel
theorem tyX1_ok : ∀ k, k < 19 → parseFieldDescriptor (TX1 k).2.2.1 = some (tyX1 k) := by decide +kernel
abbrev cX1_init : ByteArray := prog_3_method_1_code
def yX1_init : MethodName := ⟨RX1, "<init>", "()V"⟩
abbrev cX1_begin : ByteArray := prog_3_method_2_code
def yX1_begin : MethodName := ⟨RX1, "begin", "(IIIZ)V"⟩
abbrev cX1_copy : ByteArray := prog_3_method_3_code
def yX1_copy : MethodName := ⟨RX1, "copy", "(LBillRegistry$Bill;)V"⟩
abbrev cX1_parties : ByteArray := prog_3_method_4_code
def yX1_parties : MethodName := ⟨RX1, "parties", "()I"⟩
abbrev cX1_hasStep : ByteArray := prog_3_method_5_code
def yX1_hasStep : MethodName := ⟨RX1, "hasStep", "(I)Z"⟩
abbrev cX1_who : ByteArray := prog_3_method_6_code
def yX1_who : MethodName := ⟨RX1, "who", "(I)I"⟩
abbrev cX1_signed : ByteArray := prog_3_method_7_code
def yX1_signed : MethodName := ⟨RX1, "signed", "(I)Z"⟩
abbrev cX1_forgedAt : ByteArray := prog_3_method_8_code
def yX1_forgedAt : MethodName := ⟨RX1, "forgedAt", "(I)Z"⟩
abbrev cX1_hasTitle : ByteArray := prog_3_method_9_code
def yX1_hasTitle : MethodName := ⟨RX1, "hasTitle", "()Z"⟩
abbrev cX1_rank : ByteArray := prog_3_method_10_code
def yX1_rank : MethodName := ⟨RX1, "rank", "()I"⟩
abbrev cX1_whyNoStep : ByteArray := prog_3_method_11_code
def yX1_whyNoStep : MethodName := ⟨RX1, "whyNoStep", "(I)I"⟩
abbrev cX1_newStep : ByteArray := prog_3_method_12_code
def yX1_newStep : MethodName := ⟨RX1, "newStep", "(IIII)LBillRegistry$Step;"⟩
abbrev cX1_addStep : ByteArray := prog_3_method_13_code
def yX1_addStep : MethodName := ⟨RX1, "addStep", "(LBillRegistry$Step;)V"⟩
abbrev cX1_free : ByteArray := prog_3_method_14_code
def yX1_free : MethodName := ⟨RX1, "free", "(II)V"⟩
abbrev cX1_whyNot : ByteArray := prog_3_method_15_code
def yX1_whyNot : MethodName := ⟨RX1, "whyNot", "(II)I"⟩
abbrev cX1_comesOf : ByteArray := prog_3_method_16_code
def yX1_comesOf : MethodName := ⟨RX1, "comesOf", "(IIII)I"⟩
abbrev cX1_placeOf : ByteArray := prog_3_method_17_code
def yX1_placeOf : MethodName := ⟨RX1, "placeOf", "(II)I"⟩
abbrev cX1_defenceOf : ByteArray := prog_3_method_18_code
def yX1_defenceOf : MethodName := ⟨RX1, "defenceOf", "(I)I"⟩
abbrev cX1_canTell : ByteArray := prog_3_method_19_code
def yX1_canTell : MethodName := ⟨RX1, "canTell", "(III)Z"⟩
abbrev cX1_lastDayToTell : ByteArray := prog_3_method_20_code
def yX1_lastDayToTell : MethodName := ⟨RX1, "lastDayToTell", "(II)I"⟩
abbrev cX1_inReach : ByteArray := prog_3_method_21_code
def yX1_inReach : MethodName := ⟨RX1, "inReach", "(III)Z"⟩
abbrev cX1_binds : ByteArray := prog_3_method_22_code
def yX1_binds : MethodName := ⟨RX1, "binds", "(II)Z"⟩
abbrev cX1_hasCash : ByteArray := prog_3_method_23_code
def yX1_hasCash : MethodName := ⟨RX1, "hasCash", "(I[I)Z"⟩
abbrev cX1_greatestPayer : ByteArray := prog_3_method_24_code
def yX1_greatestPayer : MethodName := ⟨RX1, "greatestPayer", "([II)I"⟩
abbrev cX1_settle : ByteArray := prog_3_method_25_code
def yX1_settle : MethodName := ⟨RX1, "settle", "(I[I)V"⟩
def RX2 : String := "BillRegistry$Chain"
def TX2 : u_T := fun k => match k with
  | 0 => ("BillRegistry$Chain", "payable", "I", false)
  | 1 => ("BillRegistry$Chain", "whom", "I", false)
  | 2 => ("BillRegistry$Chain", "owner", "I", false)
  | 3 => ("BillRegistry$Chain", "grade", "I", false)
  | 4 => ("BillRegistry$Chain", "brokenAt", "I", false)
  | 5 => ("BillRegistry$Chain", "brokenOf", "I", false)
  | 6 => ("BillRegistry$Chain", "loose", "Z", false)
  | _ => ("BillRegistry$Chain", "firstGrades", "[I", true)
def tyX2 : Nat → FieldType := fun k => match k with
  | 0 => .int
  | 1 => .int
  | 2 => .int
  | 3 => .int
  | 4 => .int
  | 5 => .int
  | 6 => .boolean
  | _ => .array .int
theorem nmX2 : ∀ a, a < 8 → ∀ b, b < 8 → a ≠ b → (TX2 a).2.1 ≠ (TX2 b).2.1 := by decide +kernel
theorem tyX2_ok : ∀ k, k < 8 → parseFieldDescriptor (TX2 k).2.2.1 = some (tyX2 k) := by decide +kernel
abbrev cX2_init : ByteArray := prog_4_method_1_code
def yX2_init : MethodName := ⟨RX2, "<init>", "()V"⟩
abbrev cX2_begin : ByteArray := prog_4_method_2_code
def yX2_begin : MethodName := ⟨RX2, "begin", "(IZ)V"⟩
abbrev cX2_takeUp : ByteArray := prog_4_method_3_code
def yX2_takeUp : MethodName := ⟨RX2, "takeUp", "(I)V"⟩
abbrev cX2_follow : ByteArray := prog_4_method_4_code
def yX2_follow : MethodName := ⟨RX2, "follow", "(LBillRegistry$Step;IZ)V"⟩
abbrev cX2_entitles : ByteArray := prog_4_method_5_code
def yX2_entitles : MethodName := ⟨RX2, "entitles", "(I)Z"⟩
abbrev cX2_copy : ByteArray := prog_4_method_6_code
def yX2_copy : MethodName := ⟨RX2, "copy", "(LBillRegistry$Chain;)V"⟩
abbrev cX2_delivered : ByteArray := prog_4_method_7_code
def yX2_delivered : MethodName := ⟨RX2, "delivered", "(LBillRegistry$Step;)Z"⟩
abbrev cX2_endorsed : ByteArray := prog_4_method_8_code
def yX2_endorsed : MethodName := ⟨RX2, "endorsed", "(LBillRegistry$Step;IZ)Z"⟩
abbrev cX2_breakAt : ByteArray := prog_4_method_9_code
def yX2_breakAt : MethodName := ⟨RX2, "breakAt", "(II)V"⟩
abbrev cX2_give : ByteArray := prog_4_method_10_code
def yX2_give : MethodName := ⟨RX2, "give", "(LBillRegistry$Step;)V"⟩
abbrev cX2_gradeOf : ByteArray := prog_4_method_11_code
def yX2_gradeOf : MethodName := ⟨RX2, "gradeOf", "(LBillRegistry$Step;)I"⟩
abbrev cX2_own : ByteArray := prog_4_method_12_code
def yX2_own : MethodName := ⟨RX2, "own", "(II)V"⟩
def RX3 : String := "BillRegistry$Cure"
def TX3 : u_T := fun k => match k with
  | _ => ("BillRegistry$Cure", "trials", "[LBillRegistry$Chain;", true)
def tyX3 : Nat → FieldType := fun k => match k with
  | _ => .array (.object "BillRegistry$Chain")
theorem nmX3 : ∀ a, a < 1 → ∀ b, b < 1 → a ≠ b → (TX3 a).2.1 ≠ (TX3 b).2.1 := by decide +kernel
theorem tyX3_ok : ∀ k, k < 1 → parseFieldDescriptor (TX3 k).2.2.1 = some (tyX3 k) := by decide +kernel
abbrev cX3_init : ByteArray := prog_5_method_1_code
def yX3_init : MethodName := ⟨RX3, "<init>", "()V"⟩
abbrev cX3_fewest : ByteArray := prog_5_method_2_code
def yX3_fewest : MethodName := ⟨RX3, "fewest", "(LBillRegistry$Bill;)I"⟩
abbrev cX3_fewestFrom : ByteArray := prog_5_method_3_code
def yX3_fewestFrom : MethodName := ⟨RX3, "fewestFrom", "(LBillRegistry$Bill;[LBillRegistry$Chain;I)I"⟩
def RX4 : String := "BillRegistry$Reader"
def TX4 : u_T := fun k => match k with
  | 0 => ("BillRegistry$Reader", "numbers", "[I", true)
  | 1 => ("BillRegistry$Reader", "verb", "LBillRegistry$Verb;", false)
  | 2 => ("BillRegistry$Reader", "notice", "Z", false)
  | 3 => ("BillRegistry$Reader", "without", "Z", false)
  | 4 => ("BillRegistry$Reader", "bytes", "[B", false)
  | 5 => ("BillRegistry$Reader", "length", "I", false)
  | 6 => ("BillRegistry$Reader", "kind", "I", false)
  | 7 => ("BillRegistry$Reader", "place", "I", false)
  | 8 => ("BillRegistry$Reader", "behind", "I", false)
  | _ => ("BillRegistry$Reader", "value", "I", false)
def tyX4 : Nat → FieldType := fun k => match k with
  | 0 => .array .int
  | 1 => .object "BillRegistry$Verb"
  | 2 => .boolean
  | 3 => .boolean
  | 4 => .array .byte
  | 5 => .int
  | 6 => .int
  | 7 => .int
  | 8 => .int
  | _ => .int
theorem nmX4 : ∀ a, a < 10 → ∀ b, b < 10 → a ≠ b → (TX4 a).2.1 ≠ (TX4 b).2.1 := by decide +kernel
theorem tyX4_ok : ∀ k, k < 10 → parseFieldDescriptor (TX4 k).2.2.1 = some (tyX4 k) := by decide +kernel
abbrev cX4_init : ByteArray := prog_6_method_1_code
def yX4_init : MethodName := ⟨RX4, "<init>", "()V"⟩
abbrev cX4_open : ByteArray := prog_6_method_2_code
def yX4_open : MethodName := ⟨RX4, "open", "([BI)V"⟩
abbrev cX4_atEnd : ByteArray := prog_6_method_3_code
def yX4_atEnd : MethodName := ⟨RX4, "atEnd", "()Z"⟩
abbrev cX4_faultPlace : ByteArray := prog_6_method_4_code
def yX4_faultPlace : MethodName := ⟨RX4, "faultPlace", "()I"⟩
abbrev cX4_readLine : ByteArray := prog_6_method_5_code
def yX4_readLine : MethodName := ⟨RX4, "readLine", "()Z"⟩
abbrev cX4_readVerb : ByteArray := prog_6_method_6_code
def yX4_readVerb : MethodName := ⟨RX4, "readVerb", "()Z"⟩
abbrev cX4_isWord : ByteArray := prog_6_method_7_code
def yX4_isWord : MethodName := ⟨RX4, "isWord", "(Ljava/lang/String;)Z"⟩
abbrev cX4_move : ByteArray := prog_6_method_8_code
def yX4_move : MethodName := ⟨RX4, "move", "()V"⟩
abbrev cX4_moveOverWord : ByteArray := prog_6_method_9_code
def yX4_moveOverWord : MethodName := ⟨RX4, "moveOverWord", "()V"⟩
abbrev cX4_moveOverNumber : ByteArray := prog_6_method_10_code
def yX4_moveOverNumber : MethodName := ⟨RX4, "moveOverNumber", "()V"⟩
abbrev cX4_isLetter : ByteArray := prog_6_method_11_code
def yX4_isLetter : MethodName := ⟨RX4, "isLetter", "(I)Z"⟩
abbrev cX4_isDigit : ByteArray := prog_6_method_12_code
def yX4_isDigit : MethodName := ⟨RX4, "isDigit", "(I)Z"⟩
def RX5 : String := "BillRegistry$Recourse"
def TX5 : u_T := fun k => match k with
  | 0 => ("BillRegistry$Recourse", "bill", "LBillRegistry$Bill;", true)
  | 1 => ("BillRegistry$Recourse", "cash", "[I", true)
  | 2 => ("BillRegistry$Recourse", "payers", "[I", true)
  | _ => ("BillRegistry$Recourse", "payments", "I", false)
def tyX5 : Nat → FieldType := fun k => match k with
  | 0 => .object "BillRegistry$Bill"
  | 1 => .array .int
  | 2 => .array .int
  | _ => .int
theorem nmX5 : ∀ a, a < 4 → ∀ b, b < 4 → a ≠ b → (TX5 a).2.1 ≠ (TX5 b).2.1 := by decide +kernel
theorem tyX5_ok : ∀ k, k < 4 → parseFieldDescriptor (TX5 k).2.2.1 = some (tyX5 k) := by decide +kernel
abbrev cX5_init : ByteArray := prog_7_method_1_code
def yX5_init : MethodName := ⟨RX5, "<init>", "()V"⟩
abbrev cX5_play : ByteArray := prog_7_method_2_code
def yX5_play : MethodName := ⟨RX5, "play", "(LBillRegistry$Bill;[II)V"⟩
def RX6 : String := "BillRegistry$Step"
def TX6 : u_T := fun k => match k with
  | 0 => ("BillRegistry$Step", "sort", "I", false)
  | 1 => ("BillRegistry$Step", "by", "I", false)
  | 2 => ("BillRegistry$Step", "name", "I", false)
  | 3 => ("BillRegistry$Step", "to", "I", false)
  | 4 => ("BillRegistry$Step", "value", "I", false)
  | 5 => ("BillRegistry$Step", "day", "I", false)
  | 6 => ("BillRegistry$Step", "owner", "I", false)
  | 7 => ("BillRegistry$Step", "grade", "I", false)
  | 8 => ("BillRegistry$Step", "notice", "Z", false)
  | 9 => ("BillRegistry$Step", "without", "Z", false)
  | _ => ("BillRegistry$Step", "inDueCourse", "Z", false)
def tyX6 : Nat → FieldType := fun k => match k with
  | 0 => .int
  | 1 => .int
  | 2 => .int
  | 3 => .int
  | 4 => .int
  | 5 => .int
  | 6 => .int
  | 7 => .int
  | 8 => .boolean
  | 9 => .boolean
  | _ => .boolean
theorem nmX6 : ∀ a, a < 11 → ∀ b, b < 11 → a ≠ b → (TX6 a).2.1 ≠ (TX6 b).2.1 := by decide +kernel
theorem tyX6_ok : ∀ k, k < 11 → parseFieldDescriptor (TX6 k).2.2.1 = some (tyX6 k) := by decide +kernel
abbrev cX6_init : ByteArray := prog_8_method_1_code
def yX6_init : MethodName := ⟨RX6, "<init>", "()V"⟩
abbrev cX6_forged : ByteArray := prog_8_method_2_code
def yX6_forged : MethodName := ⟨RX6, "forged", "()Z"⟩
abbrev cX6_signed : ByteArray := prog_8_method_3_code
def yX6_signed : MethodName := ⟨RX6, "signed", "()Z"⟩
abbrev cX6_copy : ByteArray := prog_8_method_4_code
def yX6_copy : MethodName := ⟨RX6, "copy", "(LBillRegistry$Step;)V"⟩
def RX7 : String := "BillRegistry$Verb"
def TX7 : u_T := fun k => match k with
  | _ => ("", "", "", false)
def tyX7 : Nat → FieldType := fun k => match k with
  | _ => .int
theorem nmX7 : ∀ a, a < 0 → ∀ b, b < 0 → a ≠ b → (TX7 a).2.1 ≠ (TX7 b).2.1 := by decide +kernel
theorem tyX7_ok : ∀ k, k < 0 → parseFieldDescriptor (TX7 k).2.2.1 = some (tyX7 k) := by decide +kernel
def RX8 : String := "BillRegistry$World"
def TX8 : u_T := fun k => match k with
  | 0 => ("BillRegistry$World", "today", "I", false)
  | 1 => ("BillRegistry$World", "graceDays", "I", false)
  | 2 => ("BillRegistry$World", "billCount", "I", false)
  | 3 => ("BillRegistry$World", "payments", "I", false)
  | 4 => ("BillRegistry$World", "refusals", "I", false)
  | 5 => ("BillRegistry$World", "latest", "I", false)
  | 6 => ("BillRegistry$World", "tapeLength", "I", false)
  | 7 => ("BillRegistry$World", "faultPlace", "I", false)
  | 8 => ("BillRegistry$World", "cash", "[I", true)
  | 9 => ("BillRegistry$World", "bills", "[LBillRegistry$Bill;", true)
  | _ => ("BillRegistry$World", "tape", "[B", true)
def tyX8 : Nat → FieldType := fun k => match k with
  | 0 => .int
  | 1 => .int
  | 2 => .int
  | 3 => .int
  | 4 => .int
  | 5 => .int
  | 6 => .int
  | 7 => .int
  | 8 => .array .int
  | 9 => .array (.object "BillRegistry$Bill")
  | _ => .array .byte
theorem nmX8 : ∀ a, a < 11 → ∀ b, b < 11 → a ≠ b → (TX8 a).2.1 ≠ (TX8 b).2.1 := by decide +kernel
theorem tyX8_ok : ∀ k, k < 11 → parseFieldDescriptor (TX8 k).2.2.1 = some (tyX8 k) := by decide +kernel
abbrev cX8_init : ByteArray := prog_10_method_1_code
def yX8_init : MethodName := ⟨RX8, "<init>", "()V"⟩
abbrev cX8_begin : ByteArray := prog_10_method_2_code
def yX8_begin : MethodName := ⟨RX8, "begin", "()V"⟩
abbrev cX8_copy : ByteArray := prog_10_method_3_code
def yX8_copy : MethodName := ⟨RX8, "copy", "(LBillRegistry$World;)V"⟩
abbrev cX8_addBytes : ByteArray := prog_10_method_4_code
def yX8_addBytes : MethodName := ⟨RX8, "addBytes", "(IIIII)I"⟩
abbrev cX8_addNumber : ByteArray := prog_10_method_5_code
def yX8_addNumber : MethodName := ⟨RX8, "addNumber", "(I)V"⟩
abbrev cX8_note : ByteArray := prog_10_method_6_code
def yX8_note : MethodName := ⟨RX8, "note", "(I)I"⟩
abbrev cX8_hasBill : ByteArray := prog_10_method_7_code
def yX8_hasBill : MethodName := ⟨RX8, "hasBill", "(I)Z"⟩
abbrev cX8_hasParty : ByteArray := prog_10_method_8_code
def yX8_hasParty : MethodName := ⟨RX8, "hasParty", "(II)Z"⟩
abbrev cX8_hasSigner : ByteArray := prog_10_method_9_code
def yX8_hasSigner : MethodName := ⟨RX8, "hasSigner", "(II)Z"⟩
abbrev cX8_cashOfAll : ByteArray := prog_10_method_10_code
def yX8_cashOfAll : MethodName := ⟨RX8, "cashOfAll", "()I"⟩
abbrev cX8_dishonouredBills : ByteArray := prog_10_method_11_code
def yX8_dishonouredBills : MethodName := ⟨RX8, "dishonouredBills", "()I"⟩
abbrev cX8_doneBills : ByteArray := prog_10_method_12_code
def yX8_doneBills : MethodName := ⟨RX8, "doneBills", "()I"⟩
abbrev cX8_goOn : ByteArray := prog_10_method_13_code
def yX8_goOn : MethodName := ⟨RX8, "goOn", "(I)I"⟩
abbrev cX8_setCash : ByteArray := prog_10_method_14_code
def yX8_setCash : MethodName := ⟨RX8, "setCash", "(II)I"⟩
abbrev cX8_setGrace : ByteArray := prog_10_method_15_code
def yX8_setGrace : MethodName := ⟨RX8, "setGrace", "(I)I"⟩
abbrev cX8_drawOne : ByteArray := prog_10_method_16_code
def yX8_drawOne : MethodName := ⟨RX8, "drawOne", "(IIIIIZ)I"⟩
abbrev cX8_acceptOne : ByteArray := prog_10_method_17_code
def yX8_acceptOne : MethodName := ⟨RX8, "acceptOne", "(I)I"⟩
abbrev cX8_passOn : ByteArray := prog_10_method_18_code
def yX8_passOn : MethodName := ⟨RX8, "passOn", "(IIIIZZ)I"⟩
abbrev cX8_passForged : ByteArray := prog_10_method_19_code
def yX8_passForged : MethodName := ⟨RX8, "passForged", "(IIIIZ)I"⟩
abbrev cX8_findOne : ByteArray := prog_10_method_20_code
def yX8_findOne : MethodName := ⟨RX8, "findOne", "(II)I"⟩
abbrev cX8_whyNoStep : ByteArray := prog_10_method_21_code
def yX8_whyNoStep : MethodName := ⟨RX8, "whyNoStep", "(III)I"⟩
abbrev cX8_giveDefence : ByteArray := prog_10_method_22_code
def yX8_giveDefence : MethodName := ⟨RX8, "giveDefence", "(IIZ)I"⟩
abbrev cX8_presentOne : ByteArray := prog_10_method_23_code
def yX8_presentOne : MethodName := ⟨RX8, "presentOne", "(I)I"⟩
abbrev cX8_giveNotice : ByteArray := prog_10_method_24_code
def yX8_giveNotice : MethodName := ⟨RX8, "giveNotice", "(III)I"⟩
abbrev cX8_releaseOne : ByteArray := prog_10_method_25_code
def yX8_releaseOne : MethodName := ⟨RX8, "releaseOne", "(II)I"⟩
abbrev cX8_payOne : ByteArray := prog_10_method_26_code
def yX8_payOne : MethodName := ⟨RX8, "payOne", "(II)I"⟩
def RX9 : String := "BillRegistry"
def TX9 : u_T := fun k => match k with
  | 0 => ("BillRegistry", "now", "LBillRegistry$World;", true)
  | 1 => ("BillRegistry", "images", "[LBillRegistry$World;", true)
  | 2 => ("BillRegistry", "reader", "LBillRegistry$Reader;", true)
  | 3 => ("BillRegistry", "recourse", "LBillRegistry$Recourse;", true)
  | _ => ("BillRegistry", "cure", "LBillRegistry$Cure;", true)
def tyX9 : Nat → FieldType := fun k => match k with
  | 0 => .object "BillRegistry$World"
  | 1 => .array (.object "BillRegistry$World")
  | 2 => .object "BillRegistry$Reader"
  | 3 => .object "BillRegistry$Recourse"
  | _ => .object "BillRegistry$Cure"
theorem nmX9 : ∀ a, a < 5 → ∀ b, b < 5 → a ≠ b → (TX9 a).2.1 ≠ (TX9 b).2.1 := by decide +kernel
theorem tyX9_ok : ∀ k, k < 5 → parseFieldDescriptor (TX9 k).2.2.1 = some (tyX9 k) := by decide +kernel
abbrev cX9_init : ByteArray := prog_1_method_1_code
def yX9_init : MethodName := ⟨RX9, "<init>", "()V"⟩
abbrev cX9_feed : ByteArray := prog_1_method_2_code
def yX9_feed : MethodName := ⟨RX9, "feed", "(IIIII)I"⟩
abbrev cX9_end : ByteArray := prog_1_method_3_code
def yX9_end : MethodName := ⟨RX9, "end", "(I)I"⟩
abbrev cX9_text : ByteArray := prog_1_method_4_code
def yX9_text : MethodName := ⟨RX9, "text", "(Z)I"⟩
abbrev cX9_fault : ByteArray := prog_1_method_5_code
def yX9_fault : MethodName := ⟨RX9, "fault", "()I"⟩
abbrev cX9_refused : ByteArray := prog_1_method_6_code
def yX9_refused : MethodName := ⟨RX9, "refused", "()I"⟩
abbrev cX9_day : ByteArray := prog_1_method_7_code
def yX9_day : MethodName := ⟨RX9, "day", "(I)I"⟩
abbrev cX9_cash : ByteArray := prog_1_method_8_code
def yX9_cash : MethodName := ⟨RX9, "cash", "(II)I"⟩
abbrev cX9_grace : ByteArray := prog_1_method_9_code
def yX9_grace : MethodName := ⟨RX9, "grace", "(I)I"⟩
abbrev cX9_draw : ByteArray := prog_1_method_10_code
def yX9_draw : MethodName := ⟨RX9, "draw", "(IIIII)I"⟩
abbrev cX9_accept : ByteArray := prog_1_method_11_code
def yX9_accept : MethodName := ⟨RX9, "accept", "(I)I"⟩
abbrev cX9_pass : ByteArray := prog_1_method_12_code
def yX9_pass : MethodName := ⟨RX9, "pass", "(IIIIZ)I"⟩
abbrev cX9_forge : ByteArray := prog_1_method_13_code
def yX9_forge : MethodName := ⟨RX9, "forge", "(IIIIZ)I"⟩
abbrev cX9_find : ByteArray := prog_1_method_14_code
def yX9_find : MethodName := ⟨RX9, "find", "(II)I"⟩
abbrev cX9_defend : ByteArray := prog_1_method_15_code
def yX9_defend : MethodName := ⟨RX9, "defend", "(IIZ)I"⟩
abbrev cX9_present : ByteArray := prog_1_method_16_code
def yX9_present : MethodName := ⟨RX9, "present", "(I)I"⟩
abbrev cX9_tell : ByteArray := prog_1_method_17_code
def yX9_tell : MethodName := ⟨RX9, "tell", "(III)I"⟩
abbrev cX9_release : ByteArray := prog_1_method_18_code
def yX9_release : MethodName := ⟨RX9, "release", "(II)I"⟩
abbrev cX9_pay : ByteArray := prog_1_method_19_code
def yX9_pay : MethodName := ⟨RX9, "pay", "(II)I"⟩
abbrev cX9_count : ByteArray := prog_1_method_20_code
def yX9_count : MethodName := ⟨RX9, "count", "(I)I"⟩
abbrev cX9_bill : ByteArray := prog_1_method_21_code
def yX9_bill : MethodName := ⟨RX9, "bill", "(II)I"⟩
abbrev cX9_step : ByteArray := prog_1_method_22_code
def yX9_step : MethodName := ⟨RX9, "step", "(III)I"⟩
abbrev cX9_party : ByteArray := prog_1_method_23_code
def yX9_party : MethodName := ⟨RX9, "party", "(III)I"⟩
abbrev cX9_why : ByteArray := prog_1_method_24_code
def yX9_why : MethodName := ⟨RX9, "why", "(IIII)I"⟩
abbrev cX9_liable : ByteArray := prog_1_method_25_code
def yX9_liable : MethodName := ⟨RX9, "liable", "(I)I"⟩
abbrev cX9_reach : ByteArray := prog_1_method_26_code
def yX9_reach : MethodName := ⟨RX9, "reach", "(I)I"⟩
abbrev cX9_run : ByteArray := prog_1_method_27_code
def yX9_run : MethodName := ⟨RX9, "run", "(II)I"⟩
abbrev cX9_gains : ByteArray := prog_1_method_28_code
def yX9_gains : MethodName := ⟨RX9, "gains", "(II)I"⟩
abbrev cX9_ends : ByteArray := prog_1_method_29_code
def yX9_ends : MethodName := ⟨RX9, "ends", "(I)I"⟩
abbrev cX9_owes : ByteArray := prog_1_method_30_code
def yX9_owes : MethodName := ⟨RX9, "owes", "(I)I"⟩
abbrev cX9_worth : ByteArray := prog_1_method_31_code
def yX9_worth : MethodName := ⟨RX9, "worth", "(I)I"⟩
abbrev cX9_until : ByteArray := prog_1_method_32_code
def yX9_until : MethodName := ⟨RX9, "until", "(II)I"⟩
abbrev cX9_sorts : ByteArray := prog_1_method_33_code
def yX9_sorts : MethodName := ⟨RX9, "sorts", "(II)I"⟩
abbrev cX9_image : ByteArray := prog_1_method_34_code
def yX9_image : MethodName := ⟨RX9, "image", "(I)Z"⟩
abbrev cX9_again : ByteArray := prog_1_method_35_code
def yX9_again : MethodName := ⟨RX9, "again", "(I)Z"⟩
abbrev cX9_reasonOfLine : ByteArray := prog_1_method_36_code
def yX9_reasonOfLine : MethodName := ⟨RX9, "reasonOfLine", "()I"⟩
abbrev cX9_refusalOf : ByteArray := prog_1_method_37_code
def yX9_refusalOf : MethodName := ⟨RX9, "refusalOf", "(I)I"⟩
abbrev cX9_isPerson : ByteArray := prog_1_method_38_code
def yX9_isPerson : MethodName := ⟨RX9, "isPerson", "(I)Z"⟩
abbrev cX9_bit : ByteArray := prog_1_method_39_code
def yX9_bit : MethodName := ⟨RX9, "bit", "(Z)I"⟩
def RX10 : String := "BillRegistryModel"
def TX10 : u_T := fun k => match k with
  | 0 => ("BillRegistryModel", "all", "[I", true)
  | 1 => ("BillRegistryModel", "tape", "[I", true)
  | 2 => ("BillRegistryModel", "isImage", "[Z", true)
  | 3 => ("BillRegistryModel", "taped", "I", false)
  | 4 => ("BillRegistryModel", "faultPlace", "I", false)
  | 5 => ("BillRegistryModel", "paying", "[I", true)
  | 6 => ("BillRegistryModel", "size", "I", false)
  | 7 => ("BillRegistryModel", "next", "I", false)
  | 8 => ("BillRegistryModel", "token", "I", false)
  | 9 => ("BillRegistryModel", "place", "I", false)
  | 10 => ("BillRegistryModel", "lines", "I", false)
  | 11 => ("BillRegistryModel", "value", "J", false)
  | 12 => ("BillRegistryModel", "wrong", "Z", false)
  | _ => ("BillRegistryModel", "line", "[I", true)
def tyX10 : Nat → FieldType := fun k => match k with
  | 0 => .array .int
  | 1 => .array .int
  | 2 => .array .boolean
  | 3 => .int
  | 4 => .int
  | 5 => .array .int
  | 6 => .int
  | 7 => .int
  | 8 => .int
  | 9 => .int
  | 10 => .int
  | 11 => .long
  | 12 => .boolean
  | _ => .array .int
theorem nmX10 : ∀ a, a < 14 → ∀ b, b < 14 → a ≠ b → (TX10 a).2.1 ≠ (TX10 b).2.1 := by decide +kernel
theorem tyX10_ok : ∀ k, k < 14 → parseFieldDescriptor (TX10 k).2.2.1 = some (tyX10 k) := by decide +kernel
abbrev cX10_init : ByteArray := prog_12_method_1_code
def yX10_init : MethodName := ⟨RX10, "<init>", "()V"⟩
abbrev cX10_begins : ByteArray := prog_12_method_2_code
def yX10_begins : MethodName := ⟨RX10, "begins", "()V"⟩
abbrev cX10_isIn : ByteArray := prog_12_method_3_code
def yX10_isIn : MethodName := ⟨RX10, "isIn", "(III)Z"⟩
abbrev cX10_copies : ByteArray := prog_12_method_4_code
def yX10_copies : MethodName := ⟨RX10, "copies", "(II)V"⟩
abbrev cX10_at : ByteArray := prog_12_method_5_code
def yX10_at : MethodName := ⟨RX10, "at", "(II)I"⟩
abbrev cX10_stepAt : ByteArray := prog_12_method_6_code
def yX10_stepAt : MethodName := ⟨RX10, "stepAt", "(II)I"⟩
abbrev cX10_partyAt : ByteArray := prog_12_method_7_code
def yX10_partyAt : MethodName := ⟨RX10, "partyAt", "(II)I"⟩
abbrev cX10_isBill : ByteArray := prog_12_method_8_code
def yX10_isBill : MethodName := ⟨RX10, "isBill", "(I)Z"⟩
abbrev cX10_isPerson : ByteArray := prog_12_method_9_code
def yX10_isPerson : MethodName := ⟨RX10, "isPerson", "(I)Z"⟩
abbrev cX10_isParty : ByteArray := prog_12_method_10_code
def yX10_isParty : MethodName := ⟨RX10, "isParty", "(II)Z"⟩
abbrev cX10_who : ByteArray := prog_12_method_11_code
def yX10_who : MethodName := ⟨RX10, "who", "(II)I"⟩
abbrev cX10_hasSigned : ByteArray := prog_12_method_12_code
def yX10_hasSigned : MethodName := ⟨RX10, "hasSigned", "(II)Z"⟩
abbrev cX10_startsChain : ByteArray := prog_12_method_13_code
def yX10_startsChain : MethodName := ⟨RX10, "startsChain", "(I)V"⟩
abbrev cX10_owns : ByteArray := prog_12_method_14_code
def yX10_owns : MethodName := ⟨RX10, "owns", "(III)V"⟩
abbrev cX10_gets : ByteArray := prog_12_method_15_code
def yX10_gets : MethodName := ⟨RX10, "gets", "(II)V"⟩
abbrev cX10_goes : ByteArray := prog_12_method_16_code
def yX10_goes : MethodName := ⟨RX10, "goes", "(IIZ)V"⟩
abbrev cX10_endorses : ByteArray := prog_12_method_17_code
def yX10_endorses : MethodName := ⟨RX10, "endorses", "(IIZ)V"⟩
abbrev cX10_hasTitle : ByteArray := prog_12_method_18_code
def yX10_hasTitle : MethodName := ⟨RX10, "hasTitle", "(I)Z"⟩
abbrev cX10_steps : ByteArray := prog_12_method_19_code
def yX10_steps : MethodName := ⟨RX10, "steps", "(IIIIIIIZZ)I"⟩
abbrev cX10_clears : ByteArray := prog_12_method_20_code
def yX10_clears : MethodName := ⟨RX10, "clears", "(I)V"⟩
abbrev cX10_rank : ByteArray := prog_12_method_21_code
def yX10_rank : MethodName := ⟨RX10, "rank", "(I)I"⟩
abbrev cX10_isInTime : ByteArray := prog_12_method_22_code
def yX10_isInTime : MethodName := ⟨RX10, "isInTime", "(II)Z"⟩
abbrev cX10_reachOf : ByteArray := prog_12_method_23_code
def yX10_reachOf : MethodName := ⟨RX10, "reachOf", "(II)I"⟩
abbrev cX10_reason : ByteArray := prog_12_method_24_code
def yX10_reason : MethodName := ⟨RX10, "reason", "(III)I"⟩
abbrev cX10_hasCash : ByteArray := prog_12_method_25_code
def yX10_hasCash : MethodName := ⟨RX10, "hasCash", "(III)Z"⟩
abbrev cX10_pays : ByteArray := prog_12_method_26_code
def yX10_pays : MethodName := ⟨RX10, "pays", "(III)I"⟩
abbrev cX10_frees : ByteArray := prog_12_method_27_code
def yX10_frees : MethodName := ⟨RX10, "frees", "(III)V"⟩
abbrev cX10_told : ByteArray := prog_12_method_28_code
def yX10_told : MethodName := ⟨RX10, "told", "(I)I"⟩
abbrev cX10_days : ByteArray := prog_12_method_29_code
def yX10_days : MethodName := ⟨RX10, "days", "(I)I"⟩
abbrev cX10_day : ByteArray := prog_12_method_30_code
def yX10_day : MethodName := ⟨RX10, "day", "(I)I"⟩
abbrev cX10_hasNow : ByteArray := prog_12_method_31_code
def yX10_hasNow : MethodName := ⟨RX10, "hasNow", "(II)I"⟩
abbrev cX10_cash : ByteArray := prog_12_method_32_code
def yX10_cash : MethodName := ⟨RX10, "cash", "(II)I"⟩
abbrev cX10_graces : ByteArray := prog_12_method_33_code
def yX10_graces : MethodName := ⟨RX10, "graces", "(I)I"⟩
abbrev cX10_grace : ByteArray := prog_12_method_34_code
def yX10_grace : MethodName := ⟨RX10, "grace", "(I)I"⟩
abbrev cX10_draws : ByteArray := prog_12_method_35_code
def yX10_draws : MethodName := ⟨RX10, "draws", "(IIIZII)I"⟩
abbrev cX10_draw : ByteArray := prog_12_method_36_code
def yX10_draw : MethodName := ⟨RX10, "draw", "(IIIII)I"⟩
abbrev cX10_accepts : ByteArray := prog_12_method_37_code
def yX10_accepts : MethodName := ⟨RX10, "accepts", "(I)I"⟩
abbrev cX10_accept : ByteArray := prog_12_method_38_code
def yX10_accept : MethodName := ⟨RX10, "accept", "(I)I"⟩
abbrev cX10_stepReason : ByteArray := prog_12_method_39_code
def yX10_stepReason : MethodName := ⟨RX10, "stepReason", "(III)I"⟩
abbrev cX10_passes : ByteArray := prog_12_method_40_code
def yX10_passes : MethodName := ⟨RX10, "passes", "(IIZIIZ)I"⟩
abbrev cX10_pass : ByteArray := prog_12_method_41_code
def yX10_pass : MethodName := ⟨RX10, "pass", "(IIIIZ)I"⟩
abbrev cX10_forges : ByteArray := prog_12_method_42_code
def yX10_forges : MethodName := ⟨RX10, "forges", "(IIIIZ)I"⟩
abbrev cX10_forge : ByteArray := prog_12_method_43_code
def yX10_forge : MethodName := ⟨RX10, "forge", "(IIIIZ)I"⟩
abbrev cX10_finds : ByteArray := prog_12_method_44_code
def yX10_finds : MethodName := ⟨RX10, "finds", "(II)I"⟩
abbrev cX10_find : ByteArray := prog_12_method_45_code
def yX10_find : MethodName := ⟨RX10, "find", "(II)I"⟩
abbrev cX10_isSigned : ByteArray := prog_12_method_46_code
def yX10_isSigned : MethodName := ⟨RX10, "isSigned", "(II)Z"⟩
abbrev cX10_defends : ByteArray := prog_12_method_47_code
def yX10_defends : MethodName := ⟨RX10, "defends", "(IIZ)I"⟩
abbrev cX10_defend : ByteArray := prog_12_method_48_code
def yX10_defend : MethodName := ⟨RX10, "defend", "(IIZ)I"⟩
abbrev cX10_presents : ByteArray := prog_12_method_49_code
def yX10_presents : MethodName := ⟨RX10, "presents", "(I)I"⟩
abbrev cX10_present : ByteArray := prog_12_method_50_code
def yX10_present : MethodName := ⟨RX10, "present", "(I)I"⟩
abbrev cX10_notifies : ByteArray := prog_12_method_51_code
def yX10_notifies : MethodName := ⟨RX10, "notifies", "(III)I"⟩
abbrev cX10_tell : ByteArray := prog_12_method_52_code
def yX10_tell : MethodName := ⟨RX10, "tell", "(III)I"⟩
abbrev cX10_releases : ByteArray := prog_12_method_53_code
def yX10_releases : MethodName := ⟨RX10, "releases", "(II)I"⟩
abbrev cX10_release : ByteArray := prog_12_method_54_code
def yX10_release : MethodName := ⟨RX10, "release", "(II)I"⟩
abbrev cX10_paysNow : ByteArray := prog_12_method_55_code
def yX10_paysNow : MethodName := ⟨RX10, "paysNow", "(II)I"⟩
abbrev cX10_pay : ByteArray := prog_12_method_56_code
def yX10_pay : MethodName := ⟨RX10, "pay", "(II)I"⟩
abbrev cX10_liableBits : ByteArray := prog_12_method_57_code
def yX10_liableBits : MethodName := ⟨RX10, "liableBits", "(II)I"⟩
abbrev cX10_payer : ByteArray := prog_12_method_58_code
def yX10_payer : MethodName := ⟨RX10, "payer", "(II)I"⟩
abbrev cX10_runs : ByteArray := prog_12_method_59_code
def yX10_runs : MethodName := ⟨RX10, "runs", "(I)I"⟩
abbrev cX10_bitsOf : ByteArray := prog_12_method_60_code
def yX10_bitsOf : MethodName := ⟨RX10, "bitsOf", "(I)I"⟩
abbrev cX10_isCured : ByteArray := prog_12_method_61_code
def yX10_isCured : MethodName := ⟨RX10, "isCured", "(II)Z"⟩
abbrev cX10_cure : ByteArray := prog_12_method_62_code
def yX10_cure : MethodName := ⟨RX10, "cure", "(I)I"⟩
abbrev cX10_billsThat : ByteArray := prog_12_method_63_code
def yX10_billsThat : MethodName := ⟨RX10, "billsThat", "(I)I"⟩
abbrev cX10_count : ByteArray := prog_12_method_64_code
def yX10_count : MethodName := ⟨RX10, "count", "(I)I"⟩
abbrev cX10_refused : ByteArray := prog_12_method_65_code
def yX10_refused : MethodName := ⟨RX10, "refused", "()I"⟩
abbrev cX10_bill : ByteArray := prog_12_method_66_code
def yX10_bill : MethodName := ⟨RX10, "bill", "(II)I"⟩
abbrev cX10_isStep : ByteArray := prog_12_method_67_code
def yX10_isStep : MethodName := ⟨RX10, "isStep", "(II)Z"⟩
abbrev cX10_step : ByteArray := prog_12_method_68_code
def yX10_step : MethodName := ⟨RX10, "step", "(III)I"⟩
abbrev cX10_party : ByteArray := prog_12_method_69_code
def yX10_party : MethodName := ⟨RX10, "party", "(III)I"⟩
abbrev cX10_cause : ByteArray := prog_12_method_70_code
def yX10_cause : MethodName := ⟨RX10, "cause", "(III)I"⟩
abbrev cX10_why : ByteArray := prog_12_method_71_code
def yX10_why : MethodName := ⟨RX10, "why", "(IIII)I"⟩
abbrev cX10_liable : ByteArray := prog_12_method_72_code
def yX10_liable : MethodName := ⟨RX10, "liable", "(I)I"⟩
abbrev cX10_reach : ByteArray := prog_12_method_73_code
def yX10_reach : MethodName := ⟨RX10, "reach", "(I)I"⟩
abbrev cX10_run : ByteArray := prog_12_method_74_code
def yX10_run : MethodName := ⟨RX10, "run", "(II)I"⟩
abbrev cX10_gains : ByteArray := prog_12_method_75_code
def yX10_gains : MethodName := ⟨RX10, "gains", "(II)I"⟩
abbrev cX10_ends : ByteArray := prog_12_method_76_code
def yX10_ends : MethodName := ⟨RX10, "ends", "(I)I"⟩
abbrev cX10_owes : ByteArray := prog_12_method_77_code
def yX10_owes : MethodName := ⟨RX10, "owes", "(I)I"⟩
abbrev cX10_worth : ByteArray := prog_12_method_78_code
def yX10_worth : MethodName := ⟨RX10, "worth", "(I)I"⟩
abbrev cX10_until : ByteArray := prog_12_method_79_code
def yX10_until : MethodName := ⟨RX10, "until", "(II)I"⟩
abbrev cX10_sorts : ByteArray := prog_12_method_80_code
def yX10_sorts : MethodName := ⟨RX10, "sorts", "(II)I"⟩
abbrev cX10_feed : ByteArray := prog_12_method_81_code
def yX10_feed : MethodName := ⟨RX10, "feed", "(IIIII)I"⟩
abbrev cX10_end : ByteArray := prog_12_method_82_code
def yX10_end : MethodName := ⟨RX10, "end", "(I)I"⟩
abbrev cX10_byteAt : ByteArray := prog_12_method_83_code
def yX10_byteAt : MethodName := ⟨RX10, "byteAt", "(I)I"⟩
abbrev cX10_isLetter : ByteArray := prog_12_method_84_code
def yX10_isLetter : MethodName := ⟨RX10, "isLetter", "(I)Z"⟩
abbrev cX10_isDigit : ByteArray := prog_12_method_85_code
def yX10_isDigit : MethodName := ⟨RX10, "isDigit", "(I)Z"⟩
abbrev cX10_takes : ByteArray := prog_12_method_86_code
def yX10_takes : MethodName := ⟨RX10, "takes", "()V"⟩
abbrev cX10_fails : ByteArray := prog_12_method_87_code
def yX10_fails : MethodName := ⟨RX10, "fails", "()V"⟩
abbrev cX10_hasWord : ByteArray := prog_12_method_88_code
def yX10_hasWord : MethodName := ⟨RX10, "hasWord", "(J)Z"⟩
abbrev cX10_isLine : ByteArray := prog_12_method_89_code
def yX10_isLine : MethodName := ⟨RX10, "isLine", "(JII)Z"⟩
abbrev cX10_readsLine : ByteArray := prog_12_method_90_code
def yX10_readsLine : MethodName := ⟨RX10, "readsLine", "()V"⟩
abbrev cX10_done : ByteArray := prog_12_method_91_code
def yX10_done : MethodName := ⟨RX10, "done", "(I)I"⟩
abbrev cX10_text : ByteArray := prog_12_method_92_code
def yX10_text : MethodName := ⟨RX10, "text", "(Z)I"⟩
abbrev cX10_fault : ByteArray := prog_12_method_93_code
def yX10_fault : MethodName := ⟨RX10, "fault", "()I"⟩
abbrev cX10_image : ByteArray := prog_12_method_94_code
def yX10_image : MethodName := ⟨RX10, "image", "(I)Z"⟩
abbrev cX10_again : ByteArray := prog_12_method_95_code
def yX10_again : MethodName := ⟨RX10, "again", "(I)Z"⟩
def RJx145de : String := "java/io/Serializable"
def TJx145de : u_T := fun k => match k with
  | _ => ("", "", "", false)
def tyJx145de : Nat → FieldType := fun k => match k with
  | _ => .int
theorem nmJx145de : ∀ a, a < 0 → ∀ b, b < 0 → a ≠ b → (TJx145de a).2.1 ≠ (TJx145de b).2.1 := by decide +kernel
theorem tyJx145de_ok : ∀ k, k < 0 → parseFieldDescriptor (TJx145de k).2.2.1 = some (tyJx145de k) := by decide +kernel
def RJx9f9b0 : String := "java/lang/CharSequence"
def TJx9f9b0 : u_T := fun k => match k with
  | _ => ("", "", "", false)
def tyJx9f9b0 : Nat → FieldType := fun k => match k with
  | _ => .int
theorem nmJx9f9b0 : ∀ a, a < 0 → ∀ b, b < 0 → a ≠ b → (TJx9f9b0 a).2.1 ≠ (TJx9f9b0 b).2.1 := by decide +kernel
theorem tyJx9f9b0_ok : ∀ k, k < 0 → parseFieldDescriptor (TJx9f9b0 k).2.2.1 = some (tyJx9f9b0 k) := by decide +kernel
def RJxb160c : String := "java/lang/Comparable"
def TJxb160c : u_T := fun k => match k with
  | _ => ("", "", "", false)
def tyJxb160c : Nat → FieldType := fun k => match k with
  | _ => .int
theorem nmJxb160c : ∀ a, a < 0 → ∀ b, b < 0 → a ≠ b → (TJxb160c a).2.1 ≠ (TJxb160c b).2.1 := by decide +kernel
theorem tyJxb160c_ok : ∀ k, k < 0 → parseFieldDescriptor (TJxb160c k).2.2.1 = some (tyJxb160c k) := by decide +kernel
def RJx29ce0 : String := "java/lang/Enum"
def TJx29ce0 : u_T := fun k => match k with
  | _ => ("", "", "", false)
def tyJx29ce0 : Nat → FieldType := fun k => match k with
  | _ => .int
theorem nmJx29ce0 : ∀ a, a < 0 → ∀ b, b < 0 → a ≠ b → (TJx29ce0 a).2.1 ≠ (TJx29ce0 b).2.1 := by decide +kernel
theorem tyJx29ce0_ok : ∀ k, k < 0 → parseFieldDescriptor (TJx29ce0 k).2.2.1 = some (tyJx29ce0 k) := by decide +kernel
abbrev cJx29ce0_ordinal_8abf5 : ByteArray := prog_13_method_2_code
def yJx29ce0_ordinal_8abf5 : MethodName := ⟨RJx29ce0, "ordinal", "()I"⟩
def RJ9 : String := "java/lang/Math"
def TJ9 : u_T := fun k => match k with
  | _ => ("", "", "", false)
def tyJ9 : Nat → FieldType := fun k => match k with
  | _ => .int
theorem nmJ9 : ∀ a, a < 0 → ∀ b, b < 0 → a ≠ b → (TJ9 a).2.1 ≠ (TJ9 b).2.1 := by decide +kernel
theorem tyJ9_ok : ∀ k, k < 0 → parseFieldDescriptor (TJ9 k).2.2.1 = some (tyJ9 k) := by decide +kernel
abbrev cJ9_max_7cf53 : ByteArray := prog_14_method_65_code
def yJ9_max_7cf53 : MethodName := ⟨RJ9, "max", "(II)I"⟩
abbrev cJ9_min_7cf53 : ByteArray := prog_14_method_69_code
def yJ9_min_7cf53 : MethodName := ⟨RJ9, "min", "(II)I"⟩
def RJ0 : String := "java/lang/String"
def TJ0 : u_T := fun k => match k with
  | _ => ("", "", "", false)
def tyJ0 : Nat → FieldType := fun k => match k with
  | _ => .int
theorem nmJ0 : ∀ a, a < 0 → ∀ b, b < 0 → a ≠ b → (TJ0 a).2.1 ≠ (TJ0 b).2.1 := by decide +kernel
theorem tyJ0_ok : ∀ k, k < 0 → parseFieldDescriptor (TJ0 k).2.2.1 = some (tyJ0 k) := by decide +kernel
abbrev cJ0_length_8abf5 : ByteArray := prog_15_method_54_code
def yJ0_length_8abf5 : MethodName := ⟨RJ0, "length", "()I"⟩
abbrev cJ0_charAt_5068e : ByteArray := prog_15_method_56_code
def yJ0_charAt_5068e : MethodName := ⟨RJ0, "charAt", "(I)C"⟩
abbrev cJ0_coder_7d493 : ByteArray := prog_15_method_152_code
def yJ0_coder_7d493 : MethodName := ⟨RJ0, "coder", "()B"⟩
abbrev cJ0_isLatin1_aae02 : ByteArray := prog_15_method_154_code
def yJ0_isLatin1_aae02 : MethodName := ⟨RJ0, "isLatin1", "()Z"⟩
abbrev cJ0_checkIndex_df160 : ByteArray := prog_15_method_155_code
def yJ0_checkIndex_df160 : MethodName := ⟨RJ0, "checkIndex", "(II)V"⟩
def RJ1 : String := "java/lang/StringLatin1"
def TJ1 : u_T := fun k => match k with
  | _ => ("", "", "", false)
def tyJ1 : Nat → FieldType := fun k => match k with
  | _ => .int
theorem nmJ1 : ∀ a, a < 0 → ∀ b, b < 0 → a ≠ b → (TJ1 a).2.1 ≠ (TJ1 b).2.1 := by decide +kernel
theorem tyJ1_ok : ∀ k, k < 0 → parseFieldDescriptor (TJ1 k).2.2.1 = some (tyJ1 k) := by decide +kernel
abbrev cJ1_charAt_3b067 : ByteArray := prog_16_method_2_code
def yJ1_charAt_3b067 : MethodName := ⟨RJ1, "charAt", "([BI)C"⟩
def RJ2 : String := "java/lang/StringUTF16"
def TJ2 : u_T := fun k => match k with
  | _ => ("", "", "", false)
def tyJ2 : Nat → FieldType := fun k => match k with
  | _ => .int
theorem nmJ2 : ∀ a, a < 0 → ∀ b, b < 0 → a ≠ b → (TJ2 a).2.1 ≠ (TJ2 b).2.1 := by decide +kernel
theorem tyJ2_ok : ∀ k, k < 0 → parseFieldDescriptor (TJ2 k).2.2.1 = some (tyJ2 k) := by decide +kernel
abbrev cJ2_getChar_3b067 : ByteArray := prog_17_method_5_code
def yJ2_getChar_3b067 : MethodName := ⟨RJ2, "getChar", "([BI)C"⟩
abbrev cJ2_length_9d52b : ByteArray := prog_17_method_6_code
def yJ2_length_9d52b : MethodName := ⟨RJ2, "length", "([B)I"⟩
abbrev cJ2_charAt_3b067 : ByteArray := prog_17_method_83_code
def yJ2_charAt_3b067 : MethodName := ⟨RJ2, "charAt", "([BI)C"⟩
abbrev cJ2_checkIndex_2214a : ByteArray := prog_17_method_91_code
def yJ2_checkIndex_2214a : MethodName := ⟨RJ2, "checkIndex", "(I[B)V"⟩
def RJ10 : String := "java/lang/System"
def TJ10 : u_T := fun k => match k with
  | _ => ("", "", "", false)
def tyJ10 : Nat → FieldType := fun k => match k with
  | _ => .int
theorem nmJ10 : ∀ a, a < 0 → ∀ b, b < 0 → a ≠ b → (TJ10 a).2.1 ≠ (TJ10 b).2.1 := by decide +kernel
theorem tyJ10_ok : ∀ k, k < 0 → parseFieldDescriptor (TJ10 k).2.2.1 = some (tyJ10 k) := by decide +kernel
def RJxfd54e : String := "java/lang/constant/Constable"
def TJxfd54e : u_T := fun k => match k with
  | _ => ("", "", "", false)
def tyJxfd54e : Nat → FieldType := fun k => match k with
  | _ => .int
theorem nmJxfd54e : ∀ a, a < 0 → ∀ b, b < 0 → a ≠ b → (TJxfd54e a).2.1 ≠ (TJxfd54e b).2.1 := by decide +kernel
theorem tyJxfd54e_ok : ∀ k, k < 0 → parseFieldDescriptor (TJxfd54e k).2.2.1 = some (tyJxfd54e k) := by decide +kernel
def RJx3cf43 : String := "java/lang/constant/ConstantDesc"
def TJx3cf43 : u_T := fun k => match k with
  | _ => ("", "", "", false)
def tyJx3cf43 : Nat → FieldType := fun k => match k with
  | _ => .int
theorem nmJx3cf43 : ∀ a, a < 0 → ∀ b, b < 0 → a ≠ b → (TJx3cf43 a).2.1 ≠ (TJx3cf43 b).2.1 := by decide +kernel
theorem tyJx3cf43_ok : ∀ k, k < 0 → parseFieldDescriptor (TJx3cf43 k).2.2.1 = some (tyJx3cf43 k) := by decide +kernel
def RJ7 : String := "java/util/Arrays"
def TJ7 : u_T := fun k => match k with
  | _ => ("", "", "", false)
def tyJ7 : Nat → FieldType := fun k => match k with
  | _ => .int
theorem nmJ7 : ∀ a, a < 0 → ∀ b, b < 0 → a ≠ b → (TJ7 a).2.1 ≠ (TJ7 b).2.1 := by decide +kernel
theorem tyJ7_ok : ∀ k, k < 0 → parseFieldDescriptor (TJ7 k).2.2.1 = some (tyJ7 k) := by decide +kernel
abbrev cJ7_fill_53178 : ByteArray := prog_19_method_103_code
def yJ7_fill_53178 : MethodName := ⟨RJ7, "fill", "([II)V"⟩
def RJ3 : String := "jdk/internal/util/Preconditions"
def TJ3 : u_T := fun k => match k with
  | _ => ("", "", "", false)
def tyJ3 : Nat → FieldType := fun k => match k with
  | _ => .int
theorem nmJ3 : ∀ a, a < 0 → ∀ b, b < 0 → a ≠ b → (TJ3 a).2.1 ≠ (TJ3 b).2.1 := by decide +kernel
theorem tyJ3_ok : ∀ k, k < 0 → parseFieldDescriptor (TJ3 k).2.2.1 = some (tyJ3 k) := by decide +kernel
abbrev cJ3_checkIndex_8e157 : ByteArray := prog_20_method_11_code
def yJ3_checkIndex_8e157 : MethodName := ⟨RJ3, "checkIndex", "(IILjava/util/function/BiFunction;)I"⟩
def RL : String := "BillRegistryLaw"
abbrev cL_law : ByteArray := code
def yL_law : MethodName := ⟨RL, "law", "([I)Z"⟩
abbrev vwCl : List vw_C := [(RX1, TX1, 19), (RX2, TX2, 8), (RX3, TX3, 1), (RX4, TX4, 10), (RX5, TX5, 4), (RX6, TX6, 11), (RX8, TX8, 11), (RX9, TX9, 5), (RX10, TX10, 14)]
/-! The words of the tables that keep, as one list for every method -/
def TB : List Cond := lw_tbl.filter goodWord
theorem TB_in {w : Cond} (h : w ∈ TB) : w ∈ lw_tbl := (List.mem_filter.mp h).1
theorem TB_gd {w : Cond} (h : w ∈ TB) : goodWord w = true := (List.mem_filter.mp h).2
theorem TB_t (i : Nat) {w : Cond} (h : tables_1[i]? = some w) (hg : goodWord w = true) : w ∈ TB := List.mem_filter.mpr ⟨List.mem_append_right _ (List.mem_of_getElem? h), hg⟩
theorem TB_s (i : Nat) {w : Cond} (h : (k2_sels lw_privs)[i]? = some w) (hg : goodWord w = true) : w ∈ TB := List.mem_filter.mpr ⟨List.mem_append_left _ (List.mem_of_getElem? h), hg⟩
theorem TB_l {ws : List Cond} (ps : List Nat) (hp : ws = ps.filterMap (fun i => tables_1[i]?)) (h : ws.all goodWord = true) : ∀ w ∈ ws, w ∈ TB := by
  intro w hw
  have h1 := List.all_eq_true.mp h w hw
  rw [hp] at hw
  obtain ⟨i, -, hi⟩ := List.mem_filterMap.mp hw
  exact TB_t i hi h1
abbrev wm (y : MethodName) (cc : ByteArray) (n : Nat) (r : Option FieldType) : List Cond := .code y cc n r :: TB
theorem wm_good {y : MethodName} {cc : ByteArray} {n : Nat} {r : Option FieldType} (hc : Cond.code y cc n r ∈ TB) : GoodIn TB (wm y cc n r) := by
  intro w hw
  rcases List.mem_cons.mp hw with e | h
  · subst e
    exact ⟨hc, good_of_word (TB_gd hc)⟩
  · exact ⟨h, good_of_word (TB_gd h)⟩
/-! Worlds: M the cells that are known exactly, T the cells of which a tag is known -/
abbrev mM : Type := Nat → Option va_E
abbrev mT : Type := Nat → Option Nat
abbrev fS : Type := (Int × Int) ⊕ Nat
abbrev tS : Type := (Nat × List fS) ⊕ (Nat × Nat × fS)
def okV (T : mT) (sp : fS) (v : Value) : Prop := match sp with
  | .inl r => ∃ x : Int32, v = .int x ∧ r.1 ≤ x.toInt ∧ x.toInt ≤ r.2
  | .inr τ => ∃ q : Nat, v = .ref q ∧ T q = some τ
def confE (kA : Nat → ClassId) (T : mT) (sp : tS) (e : va_E) : Prop := match sp with
  | .inl o => ∃ fs : List Value, e = .inr (o.1, fs) ∧ fs.length = o.2.length ∧ ∀ (k : Nat) (q : fS), o.2[k]? = some q → ∃ v, fs[k]? = some v ∧ okV T q v
  | .inr (c, n, .inl r) => ∃ f : Nat → Int32, e = .inl (kA c, n, .inl f) ∧ ∀ j, j < n → r.1 ≤ (f j).toInt ∧ (f j).toInt ≤ r.2
  | .inr (c, n, .inr τ) => ∃ g : Nat → Option Nat, e = .inl (kA c, n, .inr (.inr (.inr (.inr g)))) ∧ ∀ j, j < n → ∃ q, g j = some q ∧ T q = some τ
def fullI : fS := .inl (-2147483648, 2147483647)
def i07 : fS := .inl (0, 7)
def i012 : fS := .inl (0, 12)
def i01 : fS := .inl (0, 1)
/-- the tags: 0 Step, 1 Chain, 2 Bill, 3 int[8], 4 Step[12], 5 int[14], 6 Bill[4], 7 byte[600], 8 Chain[13], 9 Cure, 10 Recourse, 11 int[600] -/
def tsp : Nat → tS := fun τ => match τ with
  | 0 => .inl (5, [fullI, fullI, fullI, i07, fullI, fullI, fullI, fullI, i01, i01, i01])
  | 1 => .inl (1, [fullI, fullI, fullI, fullI, fullI, fullI, i01, .inr 3])
  | 2 => .inl (0, [fullI, fullI, fullI, fullI, fullI, i07, fullI, i012, i012, i01, i01, i01, .inr 4, .inr 1, .inr 1, .inr 5, .inr 5, .inr 5, .inr 5])
  | 3 => .inr (0, 8, fullI)
  | 4 => .inr (3, 12, .inr 0)
  | 5 => .inr (0, 14, fullI)
  | 6 => .inr (5, 4, .inr 2)
  | 7 => .inr (1, 600, .inl (-128, 127))
  | 8 => .inr (4, 13, .inr 1)
  | 9 => .inl (2, [.inr 8])
  | 11 => .inr (0, 600, fullI)
  | _ => .inl (4, [.inr 2, .inr 3, .inr 5, .inl (0, 14)])
theorem fullI_ok (x : Int32) : (-2147483648 : Int) ≤ x.toInt ∧ x.toInt ≤ 2147483647 := by
  have h1 := Int32.minValue_le_toInt x
  have h2 := Int32.toInt_le x
  constructor
  · have : Int32.minValue.toInt = -2147483648 := by decide
    omega
  · have : Int32.maxValue.toInt = 2147483647 := by decide
    omega
def conf (kA : Nat → ClassId) (T : mT) (τ : Nat) (e : va_E) : Prop := confE kA T (tsp τ) e
theorem okV.mono {T T' : mT} (h : ∀ q τ, T q = some τ → T' q = some τ) {sp : fS} {v : Value} (hv : okV T sp v) : okV T' sp v := by
  cases sp with
  | inl r => exact hv
  | inr τ =>
    obtain ⟨q, e, hq⟩ := hv
    exact ⟨q, e, h q τ hq⟩
theorem confE.mono {kA : Nat → ClassId} {T T' : mT} (h : ∀ q τ, T q = some τ → T' q = some τ) {sp : tS} {e : va_E} (hc : confE kA T sp e) : confE kA T' sp e := by
  rcases sp with o | ⟨c, n, r | τ⟩
  · obtain ⟨fs, h1, h2, h3⟩ := hc
    refine ⟨fs, h1, h2, fun k q hk => ?_⟩
    obtain ⟨v, h4, h5⟩ := h3 k q hk
    exact ⟨v, h4, h5.mono h⟩
  · exact hc
  · obtain ⟨g, h1, h2⟩ := hc
    refine ⟨g, h1, fun j hj => ?_⟩
    obtain ⟨q, h3, h4⟩ := h2 j hj
    exact ⟨q, h3, h _ _ h4⟩
def hp (D : va_G) (kA : Nat → ClassId) (M : mM) (T : mT) (H : Heap) : Prop := (∀ (a : Nat) (e : va_E), M a = some e → va_at D vwCl (a, e) H) ∧ ∀ (a τ : Nat), T a = some τ → M a = none ∧ ∃ e, va_at D vwCl (a, e) H ∧ conf kA T τ e
def mA (M : mM) (T : mT) (sz : Nat) : Nat → Prop := fun q => M q ≠ none ∨ T q ≠ none ∨ sz ≤ q
def mS (D : va_G) (kA : Nat → ClassId) (M : mM) (T : mT) (A : Nat → Prop) (H0 H : Heap) (locs : List Loc) : Prop := hp D kA M T H ∧ va_S A H0 H locs ∧ (∀ q, M q ≠ none ∨ T q ≠ none → A q) ∧ ∀ q, H0.size ≤ q → A q
theorem upS {α : Type} (f : Nat → α) (a : Nat) (v : α) : va_up f a v a = v := if_pos rfl
theorem upN {α : Type} (f : Nat → α) {a b : Nat} (v : α) (h : b ≠ a) : va_up f a v b = f b := if_neg h
theorem hp.P1 {D : va_G} {kA : Nat → ClassId} {M : mM} {T : mT} {H : Heap} (h : hp D kA M T H) {a : Nat} {e : va_E} (he : M a = some e) : va_P D vwCl [(a, e)] H := by
  intro k q hk
  have hz : k < 1 := (List.getElem?_eq_some_iff.mp hk).1
  rw [show k = 0 by omega] at hk
  cases hk
  exact h.1 a e he
theorem at_P1 {D : va_G} {H : Heap} {a : Nat} {e : va_E} (h : va_at D vwCl (a, e) H) : va_P D vwCl [(a, e)] H := by
  intro k q hk
  have hz : k < 1 := (List.getElem?_eq_some_iff.mp hk).1
  rw [show k = 0 by omega] at hk
  cases hk
  exact h
theorem hp.ltM {D : va_G} {kA : Nat → ClassId} {M : mM} {T : mT} {H : Heap} (h : hp D kA M T H) {a : Nat} (ha : M a ≠ none) : a < H.size := by
  cases he : M a with
  | none => exact absurd he ha
  | some e => exact (h.1 a e he).lt
theorem hp.ltT {D : va_G} {kA : Nat → ClassId} {M : mM} {T : mT} {H : Heap} (h : hp D kA M T H) {a : Nat} (ha : T a ≠ none) : a < H.size := by
  cases he : T a with
  | none => exact absurd he ha
  | some τ =>
    obtain ⟨-, e, h1, -⟩ := h.2 a τ he
    exact h1.lt
theorem hp.TN {D : va_G} {kA : Nat → ClassId} {M : mM} {T : mT} {H : Heap} (h : hp D kA M T H) {a : Nat} (ha : M a ≠ none) : T a = none := by
  cases he : T a with
  | none => rfl
  | some τ => exact absurd (h.2 a τ he).1 ha
theorem mS.putM {D : va_G} {kA : Nat → ClassId} {M : mM} {T : mT} {A : Nat → Prop} {H0 H H1 : Heap} {locs : List Loc} (h : mS D kA M T A H0 H locs) {a k : Nat} {e0 e : va_E} (he : M a = some e0) (h1 : va_at D vwCl (a, e) H1) (z : H1.size = H.size) (oq : ∀ q : Nat, q ≠ a → H1[q]? = H[q]?) : mS D kA (va_up M a (some e)) T A H0 H1 (locs ++ [⟨a, k⟩]) := by
  obtain ⟨hh, hS, hd, hA⟩ := h
  refine ⟨⟨fun b e' hb => ?_, fun b τ hb => ?_⟩, hS.put z oq (hd a (Or.inl (by rw [he]; simp))), fun q hq => ?_, hA⟩
  · by_cases hab : b = a
    · subst hab
      rw [upS] at hb
      cases hb
      exact h1
    · rw [upN _ _ hab] at hb
      exact (hh.1 b e' hb).kept (oq b hab)
  · obtain ⟨g1, e', g2, g3⟩ := hh.2 b τ hb
    have hab : b ≠ a := fun z => by rw [z, he] at g1; cases g1
    exact ⟨by rw [upN _ _ hab]; exact g1, e', g2.kept (oq b hab), g3⟩
  · by_cases hab : q = a
    · subst hab
      exact hd q (Or.inl (by rw [he]; simp))
    · rw [upN _ _ hab] at hq
      exact hd q hq
theorem mS.putT {D : va_G} {kA : Nat → ClassId} {M : mM} {T : mT} {A : Nat → Prop} {H0 H H1 : Heap} {locs : List Loc} (h : mS D kA M T A H0 H locs) {a k τ : Nat} {e : va_E} (ht : T a = some τ) (h1 : va_at D vwCl (a, e) H1) (hc : conf kA T τ e) (z : H1.size = H.size) (oq : ∀ q : Nat, q ≠ a → H1[q]? = H[q]?) : mS D kA M T A H0 H1 (locs ++ [⟨a, k⟩]) := by
  obtain ⟨hh, hS, hd, hA⟩ := h
  have hMa := (hh.2 a τ ht).1
  refine ⟨⟨fun b e' hb => ?_, fun b τ' hb => ?_⟩, hS.put z oq (hd a (Or.inr (by rw [ht]; simp))), hd, hA⟩
  · have hab : b ≠ a := fun z => by rw [z, hMa] at hb; cases hb
    exact (hh.1 b e' hb).kept (oq b hab)
  · by_cases hab : b = a
    · subst hab
      rw [ht] at hb
      cases hb
      exact ⟨hMa, e, h1, hc⟩
    · obtain ⟨g1, e', g2, g3⟩ := hh.2 b τ' hb
      exact ⟨g1, e', g2.kept (oq b hab), g3⟩
theorem mS.newM {D : va_G} {kA : Nat → ClassId} {M : mM} {T : mT} {A : Nat → Prop} {H0 H H1 : Heap} {locs : List Loc} (h : mS D kA M T A H0 H locs) {e : va_E} (h1 : va_at D vwCl (H.size, e) H1) (z : H1.size = H.size + 1) (oq : ∀ q : Nat, q < H.size → H1[q]? = H[q]?) : mS D kA (va_up M H.size (some e)) T A H0 H1 locs ∧ M H.size = none ∧ T H.size = none := by
  obtain ⟨hh, hS, hd, hA⟩ := h
  have n1 : M H.size = none := by
    cases hc : M H.size with
    | none => rfl
    | some x => exact absurd (hh.ltM (by rw [hc]; simp)) (Nat.lt_irrefl _)
  have n2 : T H.size = none := by
    cases hc : T H.size with
    | none => rfl
    | some x => exact absurd (hh.ltT (by rw [hc]; simp)) (Nat.lt_irrefl _)
  refine ⟨⟨⟨fun b e' hb => ?_, fun b τ hb => ?_⟩, ⟨Nat.le_trans hS.1 (by omega), fun x h1 h2 => (oq x (Nat.lt_of_lt_of_le h1 hS.1)).trans (hS.2.1 x h1 h2), hS.2.2⟩, fun q hq => ?_, hA⟩, n1, n2⟩
  · by_cases hab : b = H.size
    · subst hab
      rw [upS] at hb
      cases hb
      exact h1
    · rw [upN _ _ hab] at hb
      exact (hh.1 b e' hb).kept (oq b (hh.1 b e' hb).lt)
  · obtain ⟨g1, e', g2, g3⟩ := hh.2 b τ hb
    have hab : b ≠ H.size := fun z => by rw [z, n2] at hb; cases hb
    exact ⟨by rw [upN _ _ hab]; exact g1, e', g2.kept (oq b g2.lt), g3⟩
  · by_cases hab : q = H.size
    · subst hab
      exact hA _ hS.1
    · rw [upN _ _ hab] at hq
      exact hd q hq
/-- a cell known exactly becomes a cell of a tag -/
theorem mS.re {D : va_G} {kA : Nat → ClassId} {M : mM} {T : mT} {A : Nat → Prop} {H0 H : Heap} {locs : List Loc} (h : mS D kA M T A H0 H locs) {a τ : Nat} {e : va_E} (he : M a = some e) (hc : conf kA (va_up T a (some τ)) τ e) : mS D kA (va_up M a none) (va_up T a (some τ)) A H0 H locs := by
  obtain ⟨hh, hS, hd, hA⟩ := h
  have n2 : T a = none := hh.TN (by rw [he]; simp)
  have hm : ∀ q τ', T q = some τ' → va_up T a (some τ) q = some τ' := fun q τ' hq => by
    have hab : q ≠ a := fun z => by rw [z, n2] at hq; cases hq
    rw [upN _ _ hab]; exact hq
  refine ⟨⟨fun b e' hb => ?_, fun b τ' hb => ?_⟩, hS, fun q hq => ?_, hA⟩
  · by_cases hab : b = a
    · subst hab
      rw [upS] at hb
      cases hb
    · rw [upN _ _ hab] at hb
      exact hh.1 b e' hb
  · by_cases hab : b = a
    · subst hab
      rw [upS] at hb
      cases hb
      exact ⟨upS _ _ _, e, hh.1 b e he, hc⟩
    · rw [upN _ _ hab] at hb
      obtain ⟨g1, e', g2, g3⟩ := hh.2 b τ' hb
      exact ⟨by rw [upN _ _ hab]; exact g1, e', g2, g3.mono hm⟩
  · by_cases hab : q = a
    · subst hab
      exact hd q (Or.inl (by rw [he]; simp))
    · rw [upN _ _ hab, upN _ _ hab] at hq
      exact hd q hq
set_option maxRecDepth 100000 in
theorem inX1 : ∀ w ∈ u_ws RX1 TX1 19, w ∈ TB := TB_l [203, 205, 207, 209, 211, 213, 215, 217, 219, 221, 223, 225, 227, 229, 231, 233, 235, 237, 239] (by decide +kernel) (by decide +kernel)
set_option maxRecDepth 100000 in
theorem inX2 : ∀ w ∈ u_ws RX2 TX2 8, w ∈ TB := TB_l [68, 70, 72, 74, 76, 78, 80, 82] (by decide +kernel) (by decide +kernel)
set_option maxRecDepth 100000 in
theorem inX3 : ∀ w ∈ u_ws RX3 TX3 1, w ∈ TB := TB_l [370] (by decide +kernel) (by decide +kernel)
set_option maxRecDepth 100000 in
theorem inX4 : ∀ w ∈ u_ws RX4 TX4 10, w ∈ TB := TB_l [314, 316, 318, 320, 322, 324, 326, 328, 330, 332] (by decide +kernel) (by decide +kernel)
set_option maxRecDepth 100000 in
theorem inX5 : ∀ w ∈ u_ws RX5 TX5 4, w ∈ TB := TB_l [351, 353, 355, 357] (by decide +kernel) (by decide +kernel)
set_option maxRecDepth 100000 in
theorem inX6 : ∀ w ∈ u_ws RX6 TX6 11, w ∈ TB := TB_l [131, 133, 135, 137, 139, 141, 143, 145, 147, 149, 151] (by decide +kernel) (by decide +kernel)
set_option maxRecDepth 100000 in
theorem inX8 : ∀ w ∈ u_ws RX8 TX8 11, w ∈ TB := TB_l [268, 270, 272, 274, 276, 278, 280, 282, 284, 286, 288] (by decide +kernel) (by decide +kernel)
set_option maxRecDepth 100000 in
theorem inX9 : ∀ w ∈ u_ws RX9 TX9 5, w ∈ TB := TB_l [378, 380, 382, 384, 386] (by decide +kernel) (by decide +kernel)
set_option maxRecDepth 100000 in
theorem inX10 : ∀ w ∈ u_ws RX10 TX10 14, w ∈ TB := TB_l [975, 977, 979, 981, 983, 985, 987, 989, 991, 993, 995, 997, 999, 1001] (by decide +kernel) (by decide +kernel)
end
section
def tyL (kA : Nat → ClassId) : List (ClassId × FieldType) := [(kA 0, .int), (kA 1, .byte), (kA 2, .boolean), (kA 3, .object RX6), (kA 4, .object RX2), (kA 5, .object RX1), (kA 6, .object RX8)]
def nestQ : List (String × Nat × MethodName × String) := [(RX1, 19, yX2_init, RX9), (RX1, 40, yX6_init, RX9), (RX9, 22, yX4_init, RX9), (RX9, 29, yX5_init, RX9), (RX3, 17, yX2_init, RX9), (RX8, 94, yX9_isPerson, RX9), (RX1, 190, yX9_isPerson, RX9), (RX8, 86, yX9_bit, RX9)]
def aoQ : List String := [RX1, RX6, RX8, RX2]
def mK (D : va_G) (kA : Nat → ClassId) (U : State) : Prop := va_K D vwCl (tyL kA) U ∧ (∀ q ∈ nestQ, va_Nw (.methodLinkNest q.1 q.2.1 q.2.2.1 q.2.2.2) U) ∧ ∀ C ∈ aoQ, va_AO C U
theorem mK.warm {D : va_G} {kA : Nat → ClassId} {s U : State} (hW : s.WarmedH U.vm) (h : mK D kA s) : mK D kA U := ⟨va_K.moved hW.alike h.1, fun q hq => va_Nw.warmM hW (h.2.1 q hq), fun C hC => (h.2.2 C hC).moved hW.alike⟩
theorem mK.same {D : va_G} {kA : Nat → ClassId} {s U : State} (hv : s.vm = U.vm) (h : mK D kA s) : mK D kA U := by
  have ha : s.vm.Alike U.vm := by rw [hv]; exact Vm.Alike.refl _
  exact ⟨va_K.moved ha h.1, fun q hq => va_Nw.same rfl hv (h.2.1 q hq), fun C hC => (h.2.2 C hC).moved ha⟩
def FL (own : String) (idx ci k : Nat) (ty : FieldType) (fin : Bool) : Prop := ∃ (C : String) (TT : u_T) (N : Nat) (ty0 : Nat → FieldType), vwCl[ci]? = some (C, TT, N) ∧ k < N ∧ Cond.fieldLink own idx (TT k).1 (TT k).2.1 (TT k).2.2.1 ∈ TB ∧ (∀ w ∈ u_ws C TT N, w ∈ TB) ∧ (∀ j, j < N → parseFieldDescriptor (TT j).2.2.1 = some (ty0 j)) ∧ (∀ a, a < N → ∀ b, b < N → a ≠ b → (TT a).2.1 ≠ (TT b).2.1) ∧ ty0 k = ty ∧ (TT k).2.2.2 = fin
def FLd (own : String) (ci k : Nat) : Prop := ∀ (C : String) (TT : u_T) (N : Nat), vwCl[ci]? = some (C, TT, N) → (TT k).1 = own
section XR
variable {p : Program} {l : Launch} {e : Env} {R : Room} {s : State} {m : MethodId} {args : Array Value} {below : List Frame} {meth : Method} {c : Code} {H : Heap} {locs : List Loc} {cells slots : Nat} {Q : State → Prop}
variable {cc : ByteArray} {nL pc : Nat} {ls : Array Slot} {rest : List Value} {D : va_G} {kA : Nat → ClassId} {M : mM} {T : mT} {A : Nat → Prop} {a : Nat} {H0 : Heap} {own : String} {idx ci k τ : Nat} {ty : FieldType} {fs : List Value} {v : Value}
/-- a field is read -/
theorem xg (hC : CallFix p m c cc nL s args TB own) (hK : mK D kA s) (hH : mS D kA M T A H0 H locs) {fin : Bool} (hf : FL own idx ci k ty fin) (he : M a = some (.inr (ci, fs))) (hv : fs[k]? = some v) (hdg : decode cc pc = .ok (.getfield idx, 3))
    (kk : W p l e R s m args below meth c H locs cells slots Q (F0 m (pc + 3) ls (v :: rest))) : W p l e R s m args below meth c H locs cells slots Q (F0 m pc ls (.ref a :: rest)) := by
  obtain ⟨hx, hb, -, ho, ht⟩ := hC
  obtain ⟨C, TT, N, ty0, h1, h2, h3, h4, -⟩ := hf
  exact va_get hx hb ht h4 ho hK.1 (hH.1.P1 he) 0 rfl h1 k h2 (ht _ h3) (fun _ h => h) hv hdg kk
theorem put_at (hC : CallFix p m c cc nL s args TB own) (hK : mK D kA s) (hf : FL own idx ci k ty false) (hat : va_at D vwCl (a, .inr (ci, fs)) H) (hn : narrow ty v = v) (hfit : fits ty v = true) (hl : k < fs.length) (hdg : decode cc pc = .ok (.putfield idx, 3))
    (kk : ∀ (H1 : Heap) (j : Nat), va_at D vwCl (a, .inr (ci, fs.set k v)) H1 → H1.size = H.size → (∀ q : Nat, q ≠ a → H1[q]? = H[q]?) → W p l e R s m args below meth c H1 (locs ++ [⟨a, j⟩]) cells slots Q (F0 m (pc + 3) ls rest)) : W p l e R s m args below meth c H locs cells slots Q (F0 m pc ls (v :: .ref a :: rest)) := by
  obtain ⟨hx, hb, -, ho, ht⟩ := hC
  obtain ⟨C, TT, N, ty0, hc, hk, h3, hin, hty, hnm, hte, hfin⟩ := hf
  have hd : parseFieldDescriptor (TT k).2.2.1 = some ty := by rw [hty k hk, hte]
  have hap := va_apart (own := own) ht hin ty0 hty hnm hK.1 hc
  obtain ⟨r, h1, cell, q1, q2, q3, q4⟩ := hat
  have hr : r = (C, TT, N) := Option.some.inj (h1.symm.trans hc)
  subst hr
  obtain ⟨hS, hfc, kC, hkC, hkind⟩ := hK.1.1 ci _ hc
  obtain ⟨cf, kf, fi, f, hi, hsl⟩ := hS k hk
  have hlay := ht _ (hin _ (u_in_lay hk))
  unfold u_lay at hlay
  rw [if_neg (by rw [hfin]; decide)] at hlay
  have hst := (u_facts hfc hkC (u_lays ht hin hk) hi).1
  have h6 := u_store hfc hkC hkind hlay hi hd hn hfit
  refine W.putK hx hb (f := f) ⟨ho, ht _ h3, ⟨_, _, _, hi⟩, hst⟩ (by rw [q2]; exact h6) q1 q3 (by rw [hsl]; exact k2_hasslot (q4 k hk)) rfl rfl hdg fun H' e1 e2 e3 => ?_
  rw [hsl] at e1 ⊢
  exact kk H' _ ⟨_, hc, t_OB.to (V := updV (vp_V fs) k v) ⟨_, e1, q2, q3, t_set q4 hap hk v⟩ (fun j _ => vp_updV_set hl v j)⟩ e2 e3
/-- a field is written -/
theorem xp (hC : CallFix p m c cc nL s args TB own) (hK : mK D kA s) (hH : mS D kA M T A H0 H locs) (hf : FL own idx ci k ty false) (he : M a = some (.inr (ci, fs))) (hn : narrow ty v = v) (hfit : fits ty v = true) (hl : k < fs.length) (hdg : decode cc pc = .ok (.putfield idx, 3))
    (kk : ∀ (H1 : Heap) (locs1 : List Loc), mS D kA (va_up M a (some (.inr (ci, fs.set k v)))) T A H0 H1 locs1 → W p l e R s m args below meth c H1 locs1 cells slots Q (F0 m (pc + 3) ls rest)) : W p l e R s m args below meth c H locs cells slots Q (F0 m pc ls (v :: .ref a :: rest)) :=
  put_at hC hK hf (hH.1.1 a _ he) hn hfit hl hdg (fun H1 j h1 z oq => kk H1 _ (hH.putM he h1 z oq))
/-- a final field is written, in its constructor -/
theorem xpF (hC : CallFix p m c cc nL s args TB own) (hK : mK D kA s) (hH : mS D kA M T A H0 H locs) (hini : meth.name = "<init>") (hfd : FLd own ci k) (hf : FL own idx ci k ty true) (he : M a = some (.inr (ci, fs))) (hn : narrow ty v = v) (hfit : fits ty v = true) (hl : k < fs.length) (hdg : decode cc pc = .ok (.putfield idx, 3))
    (kk : ∀ (H1 : Heap) (locs1 : List Loc), mS D kA (va_up M a (some (.inr (ci, fs.set k v)))) T A H0 H1 locs1 → W p l e R s m args below meth c H1 locs1 cells slots Q (F0 m (pc + 3) ls rest)) : W p l e R s m args below meth c H locs cells slots Q (F0 m pc ls (v :: .ref a :: rest)) := by
  obtain ⟨hx, hb, -, ho, ht⟩ := hC
  obtain ⟨C, TT, N, ty0, hc, hk, h3, hin, hty, hnm, hte, hfin⟩ := hf
  have hd : parseFieldDescriptor (TT k).2.2.1 = some ty := by rw [hty k hk, hte]
  have hap := va_apart (own := own) ht hin ty0 hty hnm hK.1 hc
  obtain ⟨r, h1, cell, q1, q2, q3, q4⟩ := hH.1.1 a _ he
  have hr : r = (C, TT, N) := Option.some.inj (h1.symm.trans hc)
  subst hr
  obtain ⟨hS, hfc, kC, hkC, hkind⟩ := hK.1.1 ci _ hc
  obtain ⟨cf, kf, fi, f, hi, hsl⟩ := hS k hk
  have hlay := ht _ (hin _ (u_in_lay hk))
  unfold u_lay at hlay
  rw [if_pos hfin] at hlay
  have hst := (u_facts hfc hkC (u_lays ht hin hk) hi).1
  have hcf : m.cls = cf := by
    obtain ⟨_, _, c', _, _, _, -, -, hf', -, -, -, hown2, -⟩ := Cond.laysFinal_spec hlay
    have e1 : c' = cf := by have := hi.symm.trans hf'; simp at this; exact this.1.symm
    rw [hfd _ _ _ hc] at hown2
    rw [← e1]; exact Option.some.inj (ho.symm.trans hown2)
  have h6 := u_fits hfc hkC hkind (Or.inr hlay) hi hd hn hfit
  refine W.putFinK hx hb ho (ht _ h3) hi hst hcf hini (by rw [q2]; exact h6) q1 q3 (by rw [hsl]; exact k2_hasslot (q4 k hk)) rfl rfl hdg fun H' e1 e2 e3 => ?_
  rw [hsl] at e1 ⊢
  exact kk H' _ (hH.putM he ⟨_, hc, t_OB.to (V := updV (vp_V fs) k v) ⟨_, e1, q2, q3, t_set q4 hap hk v⟩ (fun j _ => vp_updV_set hl v j)⟩ e2 e3)
/-- typed reads and writes of fields -/
theorem tcell (hH : mS D kA M T A H0 H locs) (ht : T a = some τ) {sps : List fS} (hsp : tsp τ = .inl (ci, sps)) : ∃ fs : List Value, va_at D vwCl (a, .inr (ci, fs)) H ∧ fs.length = sps.length ∧ ∀ (k : Nat) (q : fS), sps[k]? = some q → ∃ v, fs[k]? = some v ∧ okV T q v := by
  obtain ⟨-, e, h1, h2⟩ := hH.1.2 a τ ht
  unfold conf at h2
  rw [hsp] at h2
  obtain ⟨fs, h3, h4, h5⟩ := h2
  subst h3
  exact ⟨fs, h1, h4, h5⟩
theorem tg (hC : CallFix p m c cc nL s args TB own) (hK : mK D kA s) (hH : mS D kA M T A H0 H locs) {fin : Bool} (hf : FL own idx ci k ty fin) (ht : T a = some τ) {sps : List fS} (hsp : tsp τ = .inl (ci, sps)) {r : Int × Int} (hq : sps[k]? = some (.inl r)) (hdg : decode cc pc = .ok (.getfield idx, 3))
    (kk : ∀ x : Int32, r.1 ≤ x.toInt → x.toInt ≤ r.2 → W p l e R s m args below meth c H locs cells slots Q (F0 m (pc + 3) ls (.int x :: rest))) : W p l e R s m args below meth c H locs cells slots Q (F0 m pc ls (.ref a :: rest)) := by
  obtain ⟨fs, h1, h2, h3⟩ := tcell hH ht hsp
  obtain ⟨v, hv, x, hx1, hx2, hx3⟩ := h3 k _ hq
  subst hx1
  obtain ⟨hx, hb, -, ho, htt⟩ := hC
  obtain ⟨C, TT, N, ty0, g1, g2, g3, g4, -⟩ := hf
  exact va_get hx hb htt g4 ho hK.1 (at_P1 h1) 0 rfl g1 k g2 (htt _ g3) (fun _ h => h) hv hdg (kk x hx2 hx3)
theorem tgr (hC : CallFix p m c cc nL s args TB own) (hK : mK D kA s) (hH : mS D kA M T A H0 H locs) {fin : Bool} (hf : FL own idx ci k ty fin) (ht : T a = some τ) {sps : List fS} (hsp : tsp τ = .inl (ci, sps)) {τ' : Nat} (hq : sps[k]? = some (.inr τ')) (hdg : decode cc pc = .ok (.getfield idx, 3))
    (kk : ∀ q : Nat, T q = some τ' → W p l e R s m args below meth c H locs cells slots Q (F0 m (pc + 3) ls (.ref q :: rest))) : W p l e R s m args below meth c H locs cells slots Q (F0 m pc ls (.ref a :: rest)) := by
  obtain ⟨fs, h1, h2, h3⟩ := tcell hH ht hsp
  obtain ⟨v, hv, q, hx1, hx2⟩ := h3 k _ hq
  subst hx1
  obtain ⟨hx, hb, -, ho, htt⟩ := hC
  obtain ⟨C, TT, N, ty0, g1, g2, g3, g4, -⟩ := hf
  exact va_get hx hb htt g4 ho hK.1 (at_P1 h1) 0 rfl g1 k g2 (htt _ g3) (fun _ h => h) hv hdg (kk q hx2)
theorem tpu (hC : CallFix p m c cc nL s args TB own) (hK : mK D kA s) (hH : mS D kA M T A H0 H locs) (hf : FL own idx ci k ty false) (ht : T a = some τ) {sps : List fS} (hsp : tsp τ = .inl (ci, sps)) {r : Int × Int} (hq : sps[k]? = some (.inl r)) {x : Int32} (hx1 : r.1 ≤ x.toInt) (hx2 : x.toInt ≤ r.2) (hn : narrow ty (.int x) = .int x) (hfit : fits ty (.int x) = true) (hdg : decode cc pc = .ok (.putfield idx, 3))
    (kk : ∀ (H1 : Heap) (locs1 : List Loc), mS D kA M T A H0 H1 locs1 → W p l e R s m args below meth c H1 locs1 cells slots Q (F0 m (pc + 3) ls rest)) : W p l e R s m args below meth c H locs cells slots Q (F0 m pc ls (.int x :: .ref a :: rest)) := by
  obtain ⟨fs, h1, h2, h3⟩ := tcell hH ht hsp
  have hl : k < fs.length := by rw [h2]; exact (List.getElem?_eq_some_iff.mp hq).1
  refine put_at hC hK hf h1 hn hfit hl hdg (fun H1 j g1 z oq => kk H1 _ (hH.putT ht g1 ?_ z oq))
  unfold conf
  rw [hsp]
  refine ⟨_, rfl, by rw [List.length_set]; exact h2, fun k' q hk' => ?_⟩
  by_cases hkk : k' = k
  · subst hkk
    rw [hq] at hk'
    cases hk'
    exact ⟨.int x, by rw [List.getElem?_set_self hl], x, rfl, hx1, hx2⟩
  · obtain ⟨v, g2, g3⟩ := h3 k' q hk'
    exact ⟨v, by rw [List.getElem?_set_ne (Ne.symm hkk)]; exact g2, g3⟩
/-- arrays known exactly -/
theorem xild (hC : CallFix p m c cc nL s args TB own) (hK : mK D kA s) (hH : mS D kA M T A H0 H locs) {n : Nat} {f : Nat → Int32} (he : M a = some (.inl (kA 0, n, .inl f))) {i : Int32} (hin : vp_in i n) (hdg : decode cc pc = .ok (.iaload, 1))
    (kk : W p l e R s m args below meth c H locs cells slots Q (F0 m (pc + 1) ls (.int (f i.toNatClampNeg) :: rest))) : W p l e R s m args below meth c H locs cells slots Q (F0 m pc ls (.int i :: .ref a :: rest)) :=
  va_iald hC.1 hC.2.1 hK.1 (hH.1.P1 he) 0 0 rfl rfl hin hdg kk
theorem xzld (hC : CallFix p m c cc nL s args TB own) (hK : mK D kA s) (hH : mS D kA M T A H0 H locs) {n : Nat} {f : Nat → Int32} (he : M a = some (.inl (kA 2, n, .inl f))) {i : Int32} (hin : vp_in i n) (hdg : decode cc pc = .ok (.baload, 1))
    (kk : W p l e R s m args below meth c H locs cells slots Q (F0 m (pc + 1) ls (.int (f i.toNatClampNeg) :: rest))) : W p l e R s m args below meth c H locs cells slots Q (F0 m pc ls (.int i :: .ref a :: rest)) :=
  va_zald hC.1 hC.2.1 hK.1 (hH.1.P1 he) 0 2 rfl rfl hin hdg kk
theorem ist_at (hC : CallFix p m c cc nL s args TB own) (hK : mK D kA s) {n : Nat} {f : Nat → Int32} (hat : va_at D vwCl (a, .inl (kA 0, n, .inl f)) H) {i x : Int32} (hin : vp_in i n) (hdg : decode cc pc = .ok (.iastore, 1))
    (kk : ∀ (H1 : Heap) (j : Nat), va_at D vwCl (a, .inl (kA 0, n, .inl (upd f i.toNatClampNeg x))) H1 → H1.size = H.size → (∀ q : Nat, q ≠ a → H1[q]? = H[q]?) → W p l e R s m args below meth c H1 (locs ++ [⟨a, j⟩]) cells slots Q (F0 m (pc + 1) ls rest)) : W p l e R s m args below meth c H locs cells slots Q (F0 m pc ls (.int x :: .int i :: .ref a :: rest)) := by
  refine W.iast hC.1 hC.2.1 hat ((hK.1.2 0 _ rfl).1 n (fun j => .int (f j))) (fun q => by cases q) (by show ¬ (i < 0 ∨ (arrV _ _ _).slots.size ≤ _); rw [arrV_size]; exact hin) rfl rfl hdg fun H1 e z oq => ?_
  refine kk H1 _ ?_ z oq
  show H1[a]? = some (vp_cell _ _)
  rw [e]
  rw [vp_cell_i, vp_cell_i, arrV_store]
  congr 2
  funext q
  by_cases hq : q = i.toNatClampNeg
  · subst hq
    simp [updV, upd]
  · simp [updV, upd, hq]
theorem bst_at (hC : CallFix p m c cc nL s args TB own) (hK : mK D kA s) {n : Nat} {f : Nat → Int32} (hat : va_at D vwCl (a, .inl (kA 1, n, .inl f)) H) {i x : Int32} (hin : vp_in i n) (hdg : decode cc pc = .ok (.bastore, 1))
    (kk : ∀ (H1 : Heap) (j : Nat), va_at D vwCl (a, .inl (kA 1, n, .inl (upd f i.toNatClampNeg (vp_nar .byte x)))) H1 → H1.size = H.size → (∀ q : Nat, q ≠ a → H1[q]? = H[q]?) → W p l e R s m args below meth c H1 (locs ++ [⟨a, j⟩]) cells slots Q (F0 m (pc + 1) ls rest)) : W p l e R s m args below meth c H locs cells slots Q (F0 m pc ls (.int x :: .int i :: .ref a :: rest)) := by
  refine W.bast hC.1 hC.2.1 hat ((hK.1.2 1 _ rfl).1 n (fun j => .int (f j))) (fun q => by cases q) (by show ¬ (i < 0 ∨ (arrV _ _ _).slots.size ≤ _); rw [arrV_size]; exact hin) rfl rfl hdg fun H1 e z oq => ?_
  refine kk H1 _ ?_ z oq
  show H1[a]? = some (vp_cell _ _)
  rw [e]
  rw [vp_cell_i, vp_cell_i, arrV_store]
  congr 2
  funext q
  by_cases hq : q = i.toNatClampNeg
  · subst hq
    simp [updV, upd, vp_nar]
    try rfl
  · simp [updV, upd, hq]
theorem zst_at (hC : CallFix p m c cc nL s args TB own) (hK : mK D kA s) {n : Nat} {f : Nat → Int32} (hat : va_at D vwCl (a, .inl (kA 2, n, .inl f)) H) {i x : Int32} (hin : vp_in i n) (hdg : decode cc pc = .ok (.bastore, 1))
    (kk : ∀ (H1 : Heap) (j : Nat), va_at D vwCl (a, .inl (kA 2, n, .inl (upd f i.toNatClampNeg (vp_nar .boolean x)))) H1 → H1.size = H.size → (∀ q : Nat, q ≠ a → H1[q]? = H[q]?) → W p l e R s m args below meth c H1 (locs ++ [⟨a, j⟩]) cells slots Q (F0 m (pc + 1) ls rest)) : W p l e R s m args below meth c H locs cells slots Q (F0 m pc ls (.int x :: .int i :: .ref a :: rest)) := by
  refine W.zast hC.1 hC.2.1 hat ((hK.1.2 2 _ rfl).1 n (fun j => .int (f j))) (fun q => by cases q) (by show ¬ (i < 0 ∨ (arrV _ _ _).slots.size ≤ _); rw [arrV_size]; exact hin) rfl rfl hdg fun H1 e z oq => ?_
  refine kk H1 _ ?_ z oq
  show H1[a]? = some (vp_cell _ _)
  rw [e]
  rw [vp_cell_i, vp_cell_i, arrV_store]
  congr 2
  funext q
  by_cases hq : q = i.toNatClampNeg
  · subst hq
    simp [updV, upd, vp_nar]
    try rfl
  · simp [updV, upd, hq]
theorem xist (hC : CallFix p m c cc nL s args TB own) (hK : mK D kA s) (hH : mS D kA M T A H0 H locs) {n : Nat} {f : Nat → Int32} (he : M a = some (.inl (kA 0, n, .inl f))) {i x : Int32} (hin : vp_in i n) (hdg : decode cc pc = .ok (.iastore, 1))
    (kk : ∀ (H1 : Heap) (locs1 : List Loc), mS D kA (va_up M a (some (.inl (kA 0, n, .inl (upd f i.toNatClampNeg x))))) T A H0 H1 locs1 → W p l e R s m args below meth c H1 locs1 cells slots Q (F0 m (pc + 1) ls rest)) : W p l e R s m args below meth c H locs cells slots Q (F0 m pc ls (.int x :: .int i :: .ref a :: rest)) :=
  ist_at hC hK (hH.1.1 a _ he) hin hdg (fun H1 j h1 z oq => kk H1 _ (hH.putM he h1 z oq))
theorem xzst (hC : CallFix p m c cc nL s args TB own) (hK : mK D kA s) (hH : mS D kA M T A H0 H locs) {n : Nat} {f : Nat → Int32} (he : M a = some (.inl (kA 2, n, .inl f))) {i x : Int32} (hin : vp_in i n) (hdg : decode cc pc = .ok (.bastore, 1))
    (kk : ∀ (H1 : Heap) (locs1 : List Loc), mS D kA (va_up M a (some (.inl (kA 2, n, .inl (upd f i.toNatClampNeg (vp_nar .boolean x)))))) T A H0 H1 locs1 → W p l e R s m args below meth c H1 locs1 cells slots Q (F0 m (pc + 1) ls rest)) : W p l e R s m args below meth c H locs cells slots Q (F0 m pc ls (.int x :: .int i :: .ref a :: rest)) :=
  zst_at hC hK (hH.1.1 a _ he) hin hdg (fun H1 j h1 z oq => kk H1 _ (hH.putM he h1 z oq))
/-- arrays of a tag -/
theorem tcellI (hH : mS D kA M T A H0 H locs) (ht : T a = some τ) {ck n : Nat} {r : Int × Int} (hsp : tsp τ = .inr (ck, n, .inl r)) : ∃ f : Nat → Int32, va_at D vwCl (a, .inl (kA ck, n, .inl f)) H ∧ ∀ j, j < n → r.1 ≤ (f j).toInt ∧ (f j).toInt ≤ r.2 := by
  obtain ⟨-, e, h1, h2⟩ := hH.1.2 a τ ht
  unfold conf at h2
  rw [hsp] at h2
  obtain ⟨f, h3, h4⟩ := h2
  subst h3
  exact ⟨f, h1, h4⟩
theorem tcellQ (hH : mS D kA M T A H0 H locs) (ht : T a = some τ) {ck n τ' : Nat} (hsp : tsp τ = .inr (ck, n, .inr τ')) : ∃ g : Nat → Option Nat, va_at D vwCl (a, .inl (kA ck, n, .inr (.inr (.inr (.inr g))))) H ∧ ∀ j, j < n → ∃ q, g j = some q ∧ T q = some τ' := by
  obtain ⟨-, e, h1, h2⟩ := hH.1.2 a τ ht
  unfold conf at h2
  rw [hsp] at h2
  obtain ⟨g, h3, h4⟩ := h2
  subst h3
  exact ⟨g, h1, h4⟩
theorem in_lt {i : Int32} {n : Nat} (h : vp_in i n) : i.toNatClampNeg < n := Nat.not_le.mp fun q => h (Or.inr q)
theorem tild (hC : CallFix p m c cc nL s args TB own) (hK : mK D kA s) (hH : mS D kA M T A H0 H locs) (ht : T a = some τ) {n : Nat} {r : Int × Int} (hsp : tsp τ = .inr (0, n, .inl r)) {i : Int32} (hin : vp_in i n) (hdg : decode cc pc = .ok (.iaload, 1))
    (kk : ∀ x : Int32, r.1 ≤ x.toInt → x.toInt ≤ r.2 → W p l e R s m args below meth c H locs cells slots Q (F0 m (pc + 1) ls (.int x :: rest))) : W p l e R s m args below meth c H locs cells slots Q (F0 m pc ls (.int i :: .ref a :: rest)) := by
  obtain ⟨f, h1, h2⟩ := tcellI hH ht hsp
  exact va_iald hC.1 hC.2.1 hK.1 (at_P1 h1) 0 0 rfl rfl hin hdg (kk _ (h2 _ (in_lt hin)).1 (h2 _ (in_lt hin)).2)
theorem tbld (hC : CallFix p m c cc nL s args TB own) (hK : mK D kA s) (hH : mS D kA M T A H0 H locs) (ht : T a = some τ) {n : Nat} {r : Int × Int} (hsp : tsp τ = .inr (1, n, .inl r)) {i : Int32} (hin : vp_in i n) (hdg : decode cc pc = .ok (.baload, 1))
    (kk : ∀ x : Int32, r.1 ≤ x.toInt → x.toInt ≤ r.2 → W p l e R s m args below meth c H locs cells slots Q (F0 m (pc + 1) ls (.int x :: rest))) : W p l e R s m args below meth c H locs cells slots Q (F0 m pc ls (.int i :: .ref a :: rest)) := by
  obtain ⟨f, h1, h2⟩ := tcellI hH ht hsp
  exact va_bald hC.1 hC.2.1 hK.1 (at_P1 h1) 0 1 rfl rfl hin hdg (kk _ (h2 _ (in_lt hin)).1 (h2 _ (in_lt hin)).2)
theorem upd_rng {f : Nat → Int32} {n k : Nat} {x : Int32} {r : Int × Int} (h : ∀ j, j < n → r.1 ≤ (f j).toInt ∧ (f j).toInt ≤ r.2) (h1 : r.1 ≤ x.toInt) (h2 : x.toInt ≤ r.2) : ∀ j, j < n → r.1 ≤ (upd f k x j).toInt ∧ (upd f k x j).toInt ≤ r.2 := by
  intro j hj
  by_cases hk : j = k
  · subst hk
    rw [show upd f j x j = x by simp [upd]]
    exact ⟨h1, h2⟩
  · rw [show upd f k x j = f j by simp [upd, hk]]
    exact h j hj
theorem tist (hC : CallFix p m c cc nL s args TB own) (hK : mK D kA s) (hH : mS D kA M T A H0 H locs) (ht : T a = some τ) {n : Nat} {r : Int × Int} (hsp : tsp τ = .inr (0, n, .inl r)) {i x : Int32} (hin : vp_in i n) (hx1 : r.1 ≤ x.toInt) (hx2 : x.toInt ≤ r.2) (hdg : decode cc pc = .ok (.iastore, 1))
    (kk : ∀ (H1 : Heap) (locs1 : List Loc), mS D kA M T A H0 H1 locs1 → W p l e R s m args below meth c H1 locs1 cells slots Q (F0 m (pc + 1) ls rest)) : W p l e R s m args below meth c H locs cells slots Q (F0 m pc ls (.int x :: .int i :: .ref a :: rest)) := by
  obtain ⟨f, h1, h2⟩ := tcellI hH ht hsp
  refine ist_at hC hK h1 hin hdg (fun H1 j g1 z oq => kk H1 _ (hH.putT ht g1 ?_ z oq))
  unfold conf
  rw [hsp]
  exact ⟨_, rfl, upd_rng h2 hx1 hx2⟩
theorem tbst (hC : CallFix p m c cc nL s args TB own) (hK : mK D kA s) (hH : mS D kA M T A H0 H locs) (ht : T a = some τ) {n : Nat} {r : Int × Int} (hsp : tsp τ = .inr (1, n, .inl r)) {i x : Int32} (hin : vp_in i n) (hx1 : r.1 ≤ (vp_nar .byte x).toInt) (hx2 : (vp_nar .byte x).toInt ≤ r.2) (hdg : decode cc pc = .ok (.bastore, 1))
    (kk : ∀ (H1 : Heap) (locs1 : List Loc), mS D kA M T A H0 H1 locs1 → W p l e R s m args below meth c H1 locs1 cells slots Q (F0 m (pc + 1) ls rest)) : W p l e R s m args below meth c H locs cells slots Q (F0 m pc ls (.int x :: .int i :: .ref a :: rest)) := by
  obtain ⟨f, h1, h2⟩ := tcellI hH ht hsp
  refine bst_at hC hK h1 hin hdg (fun H1 j g1 z oq => kk H1 _ (hH.putT ht g1 ?_ z oq))
  unfold conf
  rw [hsp]
  exact ⟨_, rfl, upd_rng h2 hx1 hx2⟩
theorem xqld (hC : CallFix p m c cc nL s args TB own) (hK : mK D kA s) (hH : mS D kA M T A H0 H locs) {n ck : Nat} {f : Nat → Option Nat} {C : String} (hk : (tyL kA)[ck]? = some (kA ck, .object C)) (he : M a = some (.inl (kA ck, n, .inr (.inr (.inr (.inr f)))))) {i : Int32} (hin : vp_in i n) (hdg : decode cc pc = .ok (.aaload, 1))
    (kk : W p l e R s m args below meth c H locs cells slots Q (F0 m (pc + 1) ls (va_rf (f i.toNatClampNeg) :: rest))) : W p l e R s m args below meth c H locs cells slots Q (F0 m pc ls (.int i :: .ref a :: rest)) :=
  va_aldq hC.1 hC.2.1 hK.1 (hH.1.P1 he) 0 ck rfl hk hin hdg kk
theorem tqld (hC : CallFix p m c cc nL s args TB own) (hK : mK D kA s) (hH : mS D kA M T A H0 H locs) (ht : T a = some τ) {n ck τ' : Nat} {C : String} (hk : (tyL kA)[ck]? = some (kA ck, .object C)) (hsp : tsp τ = .inr (ck, n, .inr τ')) {i : Int32} (hin : vp_in i n) (hdg : decode cc pc = .ok (.aaload, 1))
    (kk : ∀ q : Nat, T q = some τ' → W p l e R s m args below meth c H locs cells slots Q (F0 m (pc + 1) ls (.ref q :: rest))) : W p l e R s m args below meth c H locs cells slots Q (F0 m pc ls (.int i :: .ref a :: rest)) := by
  obtain ⟨g, h1, h2⟩ := tcellQ hH ht hsp
  obtain ⟨q, h3, h4⟩ := h2 _ (in_lt hin)
  refine va_aldq hC.1 hC.2.1 hK.1 (at_P1 h1) 0 ck rfl hk hin hdg ?_
  rw [h3]
  exact kk q h4
/-- a reference is stored in an array known exactly: to an object of the class -/
theorem xqst (hC : CallFix p m c cc nL s args TB own) (hK : mK D kA s) (hH : mS D kA M T A H0 H locs) {n ck cv v : Nat} {f : Nat → Option Nat} {r : vw_C} (hk : (tyL kA)[ck]? = some (kA ck, .object r.1)) (hc : vwCl[cv]? = some r) (he : M a = some (.inl (kA ck, n, .inr (.inr (.inr (.inr f)))))) (hv : ∃ vs, va_at D vwCl (v, .inr (cv, vs)) H) {i : Int32} (hin : vp_in i n) (hdg : decode cc pc = .ok (.aastore, 1))
    (kk : ∀ (H1 : Heap) (locs1 : List Loc), mS D kA (va_up M a (some (.inl (kA ck, n, .inr (.inr (.inr (.inr (va_up f i.toNatClampNeg (some v))))))))) T A H0 H1 locs1 → W p l e R s m args below meth c H1 locs1 cells slots Q (F0 m (pc + 1) ls rest)) : W p l e R s m args below meth c H locs cells slots Q (F0 m pc ls (.ref v :: .int i :: .ref a :: rest)) := by
  have hlt := in_lt hin
  have h0 : ¬ i < 0 := fun q => hin (Or.inl q)
  obtain ⟨vs, r', hr', cellV, g1, g2, g3, -⟩ := hv
  have hcls := (hK.1.1 cv r hc).2
  obtain ⟨kA', comp, k1, k2, k3, -⟩ := (hK.1.2 ck _ hk).2
  have hcomp : comp = D.1 cv := Option.some.inj (k3.symm.trans hcls.1)
  subst hcomp
  obtain ⟨kC, hkC, -⟩ := hcls.2
  refine W.aast hC.1 hC.2.1 (hH.1.1 a _ he) (fun q h => by cases h) (fun h => by cases h) k1 k2 rfl hkC ⟨h0, by show _ < (arrV _ _ _).slots.size; rw [arrV_size]; exact hlt⟩ g1 (fun q h => by rw [g3] at h; cases h) (by rw [g2]; exact hkC) (by rw [g2]; exact va_assign hcls) rfl rfl hdg fun H1 e z oq => ?_
  refine kk H1 _ (hH.putM he ?_ z oq)
  show H1[a]? = some (vp_cell _ _)
  rw [e]
  rw [vp_cell_q, vp_cell_q, arrV_store]
  congr 2
  funext q
  by_cases hq : q = i.toNatClampNeg
  · subst hq
    simp [updV, va_up, va_rf]
  · simp [updV, va_up, hq]
theorem xlen (hC : CallFix p m c cc nL s args TB own) (hK : mK D kA s) (hH : mS D kA M T A H0 H locs) {ck : Nat} {x : vp_A} {ty : FieldType} (hk : (tyL kA)[ck]? = some (kA ck, ty)) (he : M a = some (.inl (kA ck, x))) {v : Int32} (hv : Int32.ofNat x.1 = v) (hdg : decode cc pc = .ok (.arraylength, 1))
    (kk : W p l e R s m args below meth c H locs cells slots Q (F0 m (pc + 1) ls (.int v :: rest))) : W p l e R s m args below meth c H locs cells slots Q (F0 m pc ls (.ref a :: rest)) :=
  va_alen hC.1 hC.2.1 hK.1 (hH.1.P1 he) 0 ck rfl hk hv hdg kk
theorem tlen (hC : CallFix p m c cc nL s args TB own) (hK : mK D kA s) (hH : mS D kA M T A H0 H locs) (ht : T a = some τ) {ck n : Nat} {r : Int × Int} {ty : FieldType} (hk : (tyL kA)[ck]? = some (kA ck, ty)) (hsp : tsp τ = .inr (ck, n, .inl r)) {v : Int32} (hv : Int32.ofNat n = v) (hdg : decode cc pc = .ok (.arraylength, 1))
    (kk : W p l e R s m args below meth c H locs cells slots Q (F0 m (pc + 1) ls (.int v :: rest))) : W p l e R s m args below meth c H locs cells slots Q (F0 m pc ls (.ref a :: rest)) := by
  obtain ⟨f, h1, h2⟩ := tcellI hH ht hsp
  exact va_alen hC.1 hC.2.1 hK.1 (at_P1 h1) 0 ck rfl hk hv hdg kk
/-- new cells -/
def NL (own : String) (idx ci N : Nat) (fs : List Value) : Prop := ∃ (C : String) (TT : u_T) (ty : Nat → FieldType), vwCl[ci]? = some (C, TT, N) ∧ Cond.classLink own idx C ∈ TB ∧ Cond.instantiable C N ∈ TB ∧ Cond.initialized C ∈ TB ∧ (∀ w ∈ u_ws C TT N, w ∈ TB) ∧ (∀ j, j < N → parseFieldDescriptor (TT j).2.2.1 = some (ty j)) ∧ ∀ j, j < N → defaultValue (ty j) = vp_V fs j
theorem xnew (hC : CallFix p m c cc nL s args TB own) (hK : mK D kA s) (hH : mS D kA M T A H0 H locs) {N : Nat} (hf : NL own idx ci N fs) (hcells : cells + 1 ≤ R.cells) (hslots : slots + N ≤ R.slots) (hdg : decode cc pc = .ok (.new idx, 3))
    (kk : ∀ (q : Nat) (H1 : Heap), q = H.size → H1.size = q + 1 → M q = none → T q = none → mS D kA (va_up M q (some (.inr (ci, fs)))) T A H0 H1 locs → W p l e R s m args below meth c H1 locs (cells + 1) (slots + N) Q (F0 m (pc + 3) ls (.ref q :: rest))) : W p l e R s m args below meth c H locs cells slots Q (F0 m pc ls rest) := by
  obtain ⟨hx, hb, -, ho, ht⟩ := hC
  obtain ⟨C, TT, ty, hc, h2, h3, h4, hin, hty, hfs⟩ := hf
  have hKn := hK.1.1 ci _ hc
  refine W.newcK hx hb ho (ht _ h2) (ht _ h3) (ht _ h4) rfl hdg hcells hslots hKn.2.1 rfl fun H1 kC hkC e1 z1 o1 => ?_
  obtain ⟨g1, g2, g3⟩ := hH.newM (e := .inr (ci, fs)) (H1 := H1) ⟨_, hc, (u_born ty ht hin hKn hkC e1 hty).to hfs⟩ z1 o1
  exact kk H.size H1 rfl z1 g2 g3 g1
theorem xnewa (hC : CallFix p m c cc nL s args TB own) (hK : mK D kA s) (hH : mS D kA M T A H0 H locs) {atype : ArrayType} {ck : Nat} {ty : FieldType} (hty : newarray.typeOf atype = ty) (hw : Cond.arrayClass ty ∈ TB) (hck : (tyL kA)[ck]? = some (kA ck, ty)) (hpr : ∀ C, ty ≠ .object C) {n : Int32} {N : Nat} {a0 : vp_A} (ha : ∀ cA : ClassId, vp_cell cA a0 = arrV cA N (fun _ => defaultValue ty)) (hn : ¬ n < 0) (hN : n.toNatClampNeg = N) (hbytes : N * componentBytes ty ≤ 536870912) (hcells : cells + 1 ≤ R.cells) (hslots : slots + N ≤ R.slots) (hdg : decode cc pc = .ok (.newarray atype, 2))
    (kk : ∀ (q : Nat) (H1 : Heap), q = H.size → H1.size = q + 1 → M q = none → T q = none → mS D kA (va_up M q (some (.inl (kA ck, a0)))) T A H0 H1 locs → W p l e R s m args below meth c H1 locs (cells + 1) (slots + N) Q (F0 m (pc + 2) ls (.ref q :: rest))) : W p l e R s m args below meth c H locs cells slots Q (F0 m pc ls (.int n :: rest)) := by
  obtain ⟨hx, hb, -, ho, ht⟩ := hC
  subst hty
  refine va_newaK hx hb (ht _ hw) rfl hdg rfl hn hN hbytes hcells hslots rfl fun H1 cA e1 z1 o1 hAr hNm => ?_
  have hcA : cA = kA ck := by
    have h2 := (hK.1.2 ck _ hck).2
    have h3 : s.vm.findClass ("[" ++ (newarray.typeOf atype).toString) = some (kA ck) := by
      cases atype <;> exact h2
    exact Option.some.inj (hNm.symm.trans h3)
  subst hcA
  obtain ⟨g1, g2, g3⟩ := hH.newM (e := .inl (kA ck, a0)) (H1 := H1) (by show H1[H.size]? = some (vp_cell _ _); rw [ha]; exact e1) z1 o1
  exact kk H.size H1 rfl z1 g2 g3 g1
theorem xnewq (hC : CallFix p m c cc nL s args TB own) (hK : mK D kA s) (hH : mS D kA M T A H0 H locs) {ck : Nat} {C : String} (hw : Cond.classLink own idx C ∈ TB) (hao : C ∈ aoQ) (hck : (tyL kA)[ck]? = some (kA ck, .object C)) {n : Int32} {N : Nat} (hn : ¬ n < 0) (hN : n.toNatClampNeg = N) (hbytes : N * 4 ≤ 536870912) (hcells : cells + 1 ≤ R.cells) (hslots : slots + N ≤ R.slots) (hdg : decode cc pc = .ok (.anewarray idx, 3))
    (kk : ∀ (q : Nat) (H1 : Heap), q = H.size → H1.size = q + 1 → M q = none → T q = none → mS D kA (va_up M q (some (.inl (kA ck, N, .inr (.inr (.inr (.inr (fun _ => none)))))))) T A H0 H1 locs → W p l e R s m args below meth c H1 locs (cells + 1) (slots + N) Q (F0 m (pc + 3) ls (.ref q :: rest))) : W p l e R s m args below meth c H locs cells slots Q (F0 m pc ls (.int n :: rest)) := by
  obtain ⟨hx, hb, -, ho, ht⟩ := hC
  subst hN
  refine W.anew hx hb ho (ht _ hw) (va_AO.use (hK.2.2 C hao)) rfl hdg rfl hn hbytes hcells hslots fun cA kA' comp f1 f2 f3 f4 => ?_
  have hcA : cA = kA ck := by
    obtain ⟨_, _, _, _, _, h3⟩ := (hK.1.2 ck _ hck).2
    exact Option.some.inj (f1.symm.trans h3)
  subst hcA
  obtain ⟨g1, g2, g3⟩ := hH.newM (e := .inl (kA ck, n.toNatClampNeg, .inr (.inr (.inr (.inr (fun _ => none)))))) (H1 := H.push ({ cls := kA ck, slots := Array.replicate n.toNatClampNeg .null, vm := .none } : Cell)) (by show (H.push _)[H.size]? = some (vp_cell _ _); rw [vp_cell_q]; rw [arrV_new]; simp [va_rf]) (by simp) (fun q hq => by rw [Array.getElem?_push, if_neg (Nat.ne_of_lt hq)])
  exact kk H.size _ rfl (by simp) g2 g3 g1
end XR
end
section
def mB (D : va_G) (kA : Nat → ClassId) (M : mM) (T : mT) (sz : Nat) (u : mM × mT) (t : State) : Prop := hp D kA u.1 u.2 t.heap ∧ mK D kA t ∧ ∀ q, u.1 q ≠ none ∨ u.2 q ≠ none → mA M T sz q
def mPc (D : va_G) (kA : Nat → ClassId) (M : mM) (T : mT) (sz : Nat) (as : List Value) : Array Value → State → Prop := va_Pc as (fun U => U.heap.size = sz ∧ hp D kA M T U.heap ∧ mK D kA U)
abbrev rmL (d mc ms : Nat) : Room := { frames := d, cells := mc, slots := ms, locals := 40 * d }
/-- contracts: an int (or a boolean) is answered; nothing is -/
def mCi (l : Launch) (y : MethodName) (cc : ByteArray) (n : Nat) (r : Option FieldType) (d mc ms : Nat) (D : va_G) (kA : Nat → ClassId) (M : mM) (T : mT) (sz : Nat) (as : List Value) (P : Int32 → mM × mT → Prop) : Prop := Met l y (wm y cc n r) (rmL d mc ms) (mPc D kA M T sz as) (va_Qi P (mB D kA M T sz) (mA M T sz)) mc ms (mA M T sz)
def mCv (l : Launch) (y : MethodName) (cc : ByteArray) (n : Nat) (d mc ms : Nat) (D : va_G) (kA : Nat → ClassId) (M : mM) (T : mT) (sz : Nat) (as : List Value) (P : mM × mT → Prop) : Prop := Met l y (wm y cc n none) (rmL d mc ms) (mPc D kA M T sz as) (va_Qv P (mB D kA M T sz) (mA M T sz)) mc ms (mA M T sz)
theorem mS_start {D : va_G} {kA : Nat → ClassId} {M : mM} {T : mT} {H : Heap} (h : hp D kA M T H) : mS D kA M T (mA M T H.size) H H [] := ⟨h, va_S.rf, fun q hq => hq.elim Or.inl (fun h => Or.inr (Or.inl h)), fun q h => Or.inr (Or.inr h)⟩
theorem start_W {l : Launch} {y : MethodName} {cc : ByteArray} {n : Nat} {r : Option FieldType} {rm : Room} {D : va_G} {kA : Nat → ClassId} {M : mM} {T : mT} {sz : Nat} {as : List Value} {Qc : Array Value → State → Outcome → State → Prop} {mc ms : Nat} {free : Addr → Prop} (hy : plainName y.cls = true) (hs : (lg_sl as).length ≤ n)
    (body : ∀ p e s m below meth c ls, CallFix p m c cc n s as.toArray TB y.cls → meth.sig.returnType = r → meth.locks = false → meth.name = y.name → mK D kA s → mS D kA M T (mA M T sz) s.heap s.heap [] → s.heap.size = sz → lv_has ls n (lv_args 0 as) → W p l e rm s m as.toArray below meth c s.heap [] 0 0 (MQ below Qc as.toArray s mc ms free) (F0 m 0 ls [])) : Met l y (wm y cc n r) rm (mPc D kA M T sz as) Qc mc ms free := by
  refine Met.ofW (cc := cc) (maxL := n) (ret := r) hy rfl ?_
  intro p e s m args below meth c s₁ B hml hv
  obtain ⟨rfl, hsz, hP, hK⟩ := hv
  have hts := atoms_spec (ws := wm y cc n r) B.pre
  have hl := lv_entry as (n := n) hs
  rw [lg_entry_eq]
  refine body p e s m below meth c _ ⟨B.exec, B.bytes, hml, findClass_of_methodNamed B.named, fun w hw => hts w (List.mem_cons_of_mem _ hw)⟩ B.returns B.notSynchronized (name_of_methodNamed B.named B.method).1 hK (by rw [← hsz]; exact mS_start hP) hsz hl
section XC
variable {p : Program} {l : Launch} {e : Env} {R : Room} {s : State} {m : MethodId} {args : Array Value} {below : List Frame} {meth : Method} {c : Code} {H : Heap} {locs : List Loc} {cells slots : Nat} {Q : State → Prop}
variable {cc : ByteArray} {nL pc : Nat} {ls : Array Slot} {rest : List Value} {D : va_G} {kA : Nat → ClassId} {M : mM} {T : mT} {A : Nat → Prop} {a : Nat} {H0 : Heap} {own : String} {idx ci k τ : Nat} {ty : FieldType} {fs : List Value} {v : Value}
theorem ret_i {M' : mM} {T' : mT} {sz mc ms : Nat} {P : Int32 → mM × mT → Prop} {v : Int32} (hC : CallFix p m c cc nL s args TB own) (hr : meth.sig.returnType = some .int) (hlk : meth.locks = false) (hK : mK D kA s) (hH : mS D kA M' T' (mA M T sz) s.heap H locs) (hP : P v (M', T')) (h1 : cells ≤ mc) (h2 : slots ≤ ms) (hdg : decode cc pc = .ok (.ireturn, 1)) :
    W p l e R s m args below meth c H locs cells slots (MQ below (va_Qi P (mB D kA M T sz) (mA M T sz)) args s mc ms (mA M T sz)) (F0 m pc ls [.int v]) :=
  W.widen h1 h2 (W.iret hC.1 hC.2.1 hr (fun t ht hW => ⟨⟨v, (M', T'), rfl, hP, by rw [ht]; exact hH.1, hK.warm hW, hH.2.2.1⟩, hH.2.1.F ht⟩) hH.2.1.2.2 hdg hlk)
theorem ret_z {M' : mM} {T' : mT} {sz mc ms : Nat} {P : Int32 → mM × mT → Prop} {v : Int32} (hC : CallFix p m c cc nL s args TB own) (hr : meth.sig.returnType = some .boolean) (hlk : meth.locks = false) (hK : mK D kA s) (hH : mS D kA M' T' (mA M T sz) s.heap H locs) (hv : v = 0 ∨ v = 1) (hP : P v (M', T')) (h1 : cells ≤ mc) (h2 : slots ≤ ms) (hdg : decode cc pc = .ok (.ireturn, 1)) :
    W p l e R s m args below meth c H locs cells slots (MQ below (va_Qi P (mB D kA M T sz) (mA M T sz)) args s mc ms (mA M T sz)) (F0 m pc ls [.int v]) :=
  W.widen h1 h2 (W.zret hC.1 hC.2.1 hr (by rcases hv with rfl | rfl <;> rfl) (fun t ht hW => ⟨⟨v, (M', T'), rfl, hP, by rw [ht]; exact hH.1, hK.warm hW, hH.2.2.1⟩, hH.2.1.F ht⟩) hH.2.1.2.2 hdg hlk)
theorem ret_v {M' : mM} {T' : mT} {sz mc ms : Nat} {P : mM × mT → Prop} (hC : CallFix p m c cc nL s args TB own) (hr : meth.sig.returnType = none) (hlk : meth.locks = false) (hK : mK D kA s) (hH : mS D kA M' T' (mA M T sz) s.heap H locs) (hP : P (M', T')) (h1 : cells ≤ mc) (h2 : slots ≤ ms) (hdg : decode cc pc = .ok (.return_, 1)) :
    W p l e R s m args below meth c H locs cells slots (MQ below (va_Qv P (mB D kA M T sz) (mA M T sz)) args s mc ms (mA M T sz)) (F0 m pc ls []) :=
  W.widen h1 h2 (W.vret hC.1 hC.2.1 hr (fun t ht hW => ⟨⟨(M', T'), rfl, hP, by rw [ht]; exact hH.1, hK.warm hW, hH.2.2.1⟩, hH.2.1.F ht⟩) hH.2.1.2.2 hdg hlk)
/-- links of calls -/
def MLd (y : MethodName) (np : Nat) : Prop := y.cls ≠ "java/lang/invoke/MethodHandle" ∧ y.cls ≠ "java/lang/invoke/VarHandle" ∧ (parseMethodDescriptor y.desc).map (fun d => d.parameters.length) = some np
def MLV (own : String) (idx : Nat) (y : MethodName) (bytes : ByteArray) (n : Nat) (r : Option FieldType) (np : Nat) : Prop := Cond.methodLink own idx y ∈ TB ∧ Cond.code y bytes n r ∈ TB ∧ Cond.initialized y.cls ∈ TB ∧ MLd y np ∧ Cond.instanceMethod y ∈ TB ∧ Cond.selects y.cls y y ∈ TB
def MLS (own : String) (idx : Nat) (y : MethodName) (bytes : ByteArray) (n : Nat) (r : Option FieldType) (np : Nat) : Prop := Cond.methodLink own idx y ∈ TB ∧ Cond.code y bytes n r ∈ TB ∧ Cond.initialized y.cls ∈ TB ∧ MLd y np ∧ Cond.static y ∈ TB
def MLI (own : String) (idx : Nat) (y : MethodName) (bytes : ByteArray) (n : Nat) (np : Nat) : Prop := Cond.methodLink own idx y ∈ TB ∧ Cond.code y bytes n none ∈ TB ∧ Cond.initialized y.cls ∈ TB ∧ MLd y np ∧ Cond.instanceMethod y ∈ TB ∧ y.name = "<init>"
def MLSN (own : String) (idx : Nat) (y : MethodName) (bytes : ByteArray) (n : Nat) (r : Option FieldType) (np : Nat) : Prop := (own, idx, y, RX9) ∈ nestQ ∧ Cond.code y bytes n r ∈ TB ∧ Cond.initialized y.cls ∈ TB ∧ MLd y np ∧ Cond.static y ∈ TB
def MLIN (own : String) (idx : Nat) (y : MethodName) (bytes : ByteArray) (n : Nat) (np : Nat) : Prop := (own, idx, y, RX9) ∈ nestQ ∧ Cond.code y bytes n none ∈ TB ∧ Cond.initialized y.cls ∈ TB ∧ MLd y np ∧ Cond.instanceMethod y ∈ TB ∧ y.name = "<init>"
abbrev Rcv (s : State) (H : Heap) (C : String) (b : Nat) : Prop := ∃ cellB : Cell, H[b]? = some cellB ∧ cellB.vm.isStatics = false ∧ s.vm.findClass C = some cellB.cls
theorem rcvM (hK : mK D kA s) (hH : mS D kA M T A H0 H locs) (he : M a = some (.inr (ci, fs))) {q : vw_C} (hc : vwCl[ci]? = some q) : Rcv s H q.1 a := va_recv hK.1 (hH.1.P1 he) (q0 := 0) hc rfl
theorem rcvT (hK : mK D kA s) (hH : mS D kA M T A H0 H locs) (ht : T a = some τ) {sps : List fS} (hsp : tsp τ = .inl (ci, sps)) {q : vw_C} (hc : vwCl[ci]? = some q) : Rcv s H q.1 a := by
  obtain ⟨fs, h1, -⟩ := tcell hH ht hsp
  exact va_recv hK.1 (at_P1 h1) (q0 := 0) hc rfl
theorem blindP {sz : Nat} {as : List Value} : FrameBlind (mPc D kA M T sz as) := fun a U g mk q => by
  obtain ⟨q0, q1, qP, qK⟩ := q
  exact ⟨q0, q1, qP, qK.same rfl⟩
theorem preP (hK : mK D kA s) (hh : hp D kA M T H) {as : List Value} : ∀ U : State, U.heap = H → s.WarmedH U.vm → mPc D kA M T H.size as as.toArray U := fun U hU hW => ⟨rfl, by rw [hU], by rw [hU]; exact hh, hK.warm hW⟩
variable {y : MethodName} {bytes : ByteArray} {maxL np mc ms d b : Nat} {r : Option FieldType} {As st : List Value} {Qc : Array Value → State → Outcome → State → Prop} {free : Addr → Prop}
abbrev rOK (R : Room) (d maxL mc ms cells slots : Nat) : Prop := (d + 1 ≤ R.frames ∧ 8 + (maxL + 11) + 40 * d ≤ R.locals) ∧ cells + mc ≤ R.cells ∧ slots + ms ≤ R.slots
theorem runV (hC : CallFix p m c cc nL s args TB own) (hK : mK D kA s) (hH : mS D kA M T A H0 H locs) (hM : Met l y (wm y bytes maxL r) (rmL d mc ms) (mPc D kA M T H.size (.ref b :: As)) Qc mc ms free) (hl : MLV own idx y bytes maxL r np) (hob : Rcv s H y.cls b) (hR : rOK R d maxL mc ms cells slots) (hn : As.length = np) (hsz : ls.size = nL) (hst : st = As.reverse ++ .ref b :: rest) (hW : (rest.map fun v => v.category).sum ≤ 8) (hdg : decode cc pc = .ok (.invokevirtual idx, 3)) :
    va_Run p l e R s m args below meth c H locs cells slots mc ms (F0 m pc ls st) rest (Qc (Value.ref b :: As).toArray) free := by
  obtain ⟨h1, h2, h3, h4, h5, h6⟩ := hl
  exact va_runV (C := y.cls) (n := np) hC hM ⟨callB_of np hC.2.2.2.2 (wm_good h2) rfl rfl rfl (hC.2.2.2.2 _ h3) (hC.2.2.2.2 _ h1) h4 hR.1, hC.2.2.2.2 _ h5, hC.2.2.2.2 _ h6⟩ ⟨blindP, hob, preP hK hH.1⟩ rfl hn hsz hst (lv_room hW) hdg hR.2
theorem runS (hC : CallFix p m c cc nL s args TB own) (hK : mK D kA s) (hH : mS D kA M T A H0 H locs) (hM : Met l y (wm y bytes maxL r) (rmL d mc ms) (mPc D kA M T H.size As) Qc mc ms free) (hl : MLS own idx y bytes maxL r np) (hR : rOK R d maxL mc ms cells slots) (hn : As.length = np) (hsz : ls.size = nL) (hst : st = As.reverse ++ rest) (hW : (rest.map fun v => v.category).sum ≤ 8) (hdg : decode cc pc = .ok (.invokestatic idx, 3)) :
    va_Run p l e R s m args below meth c H locs cells slots mc ms (F0 m pc ls st) rest (Qc As.toArray) free := by
  obtain ⟨h1, h2, h3, h4, h5⟩ := hl
  exact va_runS (n := np) hC hM ⟨callB_of np hC.2.2.2.2 (wm_good h2) rfl rfl rfl (hC.2.2.2.2 _ h3) (hC.2.2.2.2 _ h1) h4 hR.1, hC.2.2.2.2 _ h5⟩ ⟨blindP, preP hK hH.1⟩ rfl hn hsz hst (lv_room hW) hdg hR.2
theorem runI (hC : CallFix p m c cc nL s args TB own) (hK : mK D kA s) (hH : mS D kA M T A H0 H locs) (hM : Met l y (wm y bytes maxL none) (rmL d mc ms) (mPc D kA M T H.size (.ref b :: As)) Qc mc ms free) (hl : MLI own idx y bytes maxL np) (hR : rOK R d maxL mc ms cells slots) (hn : As.length = np) (hsz : ls.size = nL) (hst : st = As.reverse ++ .ref b :: rest) (hW : (rest.map fun v => v.category).sum ≤ 8) (hdg : decode cc pc = .ok (.invokespecial idx, 3)) :
    va_Run p l e R s m args below meth c H locs cells slots mc ms (F0 m pc ls st) rest (Qc (Value.ref b :: As).toArray) free := by
  obtain ⟨h1, h2, h3, h4, h5, h6⟩ := hl
  exact va_runI (n := np) hC hM ⟨callB_of np hC.2.2.2.2 (wm_good h2) rfl rfl rfl (hC.2.2.2.2 _ h3) (hC.2.2.2.2 _ h1) h4 hR.1, h6, hC.2.2.2.2 _ h5⟩ ⟨blindP, preP hK hH.1⟩ rfl hn hsz hst (lv_room hW) hdg hR.2
theorem runSN (hC : CallFix p m c cc nL s args TB own) (hK : mK D kA s) (hH : mS D kA M T A H0 H locs) (hM : Met l y (wm y bytes maxL r) (rmL d mc ms) (mPc D kA M T H.size As) Qc mc ms free) (hl : MLSN own idx y bytes maxL r np) (hR : rOK R d maxL mc ms cells slots) (hn : As.length = np) (hsz : ls.size = nL) (hst : st = As.reverse ++ rest) (hW : (rest.map fun v => v.category).sum ≤ 8) (hdg : decode cc pc = .ok (.invokestatic idx, 3)) :
    va_Run p l e R s m args below meth c H locs cells slots mc ms (F0 m pc ls st) rest (Qc As.toArray) free := by
  obtain ⟨h1, h2, h3, h4, h5⟩ := hl
  exact va_runSN (n := np) hC hM ⟨va_cnB np hC.2.2.2.2 (wm_good h2) rfl rfl rfl (hK.2.1 _ h1) (hC.2.2.2.2 _ h3) h4 hR.1, hC.2.2.2.2 _ h5, trivial⟩ ⟨blindP, preP hK hH.1⟩ rfl hn hsz hst (lv_room hW) hdg hR.2
theorem runIN (hC : CallFix p m c cc nL s args TB own) (hK : mK D kA s) (hH : mS D kA M T A H0 H locs) (hM : Met l y (wm y bytes maxL none) (rmL d mc ms) (mPc D kA M T H.size (.ref b :: As)) Qc mc ms free) (hl : MLIN own idx y bytes maxL np) (hR : rOK R d maxL mc ms cells slots) (hn : As.length = np) (hsz : ls.size = nL) (hst : st = As.reverse ++ .ref b :: rest) (hW : (rest.map fun v => v.category).sum ≤ 8) (hdg : decode cc pc = .ok (.invokespecial idx, 3)) :
    va_Run p l e R s m args below meth c H locs cells slots mc ms (F0 m pc ls st) rest (Qc (Value.ref b :: As).toArray) free := by
  obtain ⟨h1, h2, h3, h4, h5, h6⟩ := hl
  exact va_runIN (n := np) hC hM ⟨va_cnB np hC.2.2.2.2 (wm_good h2) rfl rfl rfl (hK.2.1 _ h1) (hC.2.2.2.2 _ h3) h4 hR.1, h6, hC.2.2.2.2 _ h5⟩ ⟨blindP, preP hK hH.1⟩ rfl hn hsz hst (lv_room hW) hdg hR.2
theorem mA_sub (hH : mS D kA M T A H0 H locs) : ∀ q, mA M T H.size q → A q := fun q h => by
  rcases h with h | h | h
  · exact hH.2.2.1 q (Or.inl h)
  · exact hH.2.2.1 q (Or.inr h)
  · exact hH.2.2.2 q (Nat.le_trans hH.2.1.1 h)
/-- behind a call -/
theorem goI {P : Int32 → mM × mT → Prop} {av : Array Value} (hK : mK D kA s) (hH : mS D kA M T A H0 H locs) (hr : va_Run p l e R s m args below meth c H locs cells slots mc ms (F0 m pc ls st) rest (va_Qi P (mB D kA M T H.size) (mA M T H.size) av) (mA M T H.size))
    (kk : ∀ (r : Int32) (M' : mM) (T' : mT) (H1 : Heap) (locs1 : List Loc), P r (M', T') → H.size ≤ H1.size → mS D kA M' T' A H0 H1 locs1 → W p l e R s m args below meth c H1 locs1 (cells + mc) (slots + ms) Q (F0 m (pc + 3) ls (.int r :: rest))) : W p l e R s m args below meth c H locs cells slots Q (F0 m pc ls st) :=
  va_calli hr hH.2.1 (fun q _ h => mA_sub hH q h) (mA_sub hH) (fun r u t H1 locs1 ht hvm hP hB hz _ hS => kk r u.1 u.2 H1 locs1 hP hz ⟨by rw [← ht]; exact hB.1, hS, fun q hq => mA_sub hH q (hB.2.2 q hq), hH.2.2.2⟩)
theorem goV {P : mM × mT → Prop} {av : Array Value} (hK : mK D kA s) (hH : mS D kA M T A H0 H locs) (hr : va_Run p l e R s m args below meth c H locs cells slots mc ms (F0 m pc ls st) rest (va_Qv P (mB D kA M T H.size) (mA M T H.size) av) (mA M T H.size))
    (kk : ∀ (M' : mM) (T' : mT) (H1 : Heap) (locs1 : List Loc), P (M', T') → H.size ≤ H1.size → mS D kA M' T' A H0 H1 locs1 → W p l e R s m args below meth c H1 locs1 (cells + mc) (slots + ms) Q (F0 m (pc + 3) ls rest)) : W p l e R s m args below meth c H locs cells slots Q (F0 m pc ls st) :=
  va_callv hr hH.2.1 (fun q _ h => mA_sub hH q h) (mA_sub hH) (fun u t H1 locs1 ht hvm hP hB hz _ hS => kk u.1 u.2 H1 locs1 hP hz ⟨by rw [← ht]; exact hB.1, hS, fun q hq => mA_sub hH q (hB.2.2 q hq), hH.2.2.2⟩)
end XC
end
section
/-! numbers, branches by numbers, copies, writes that name the new world -/
theorem iLt {a b : Int32} : a < b ↔ a.toInt < b.toInt := Int32.lt_iff_toInt_lt
theorem iLe {a b : Int32} : a ≤ b ↔ a.toInt ≤ b.toInt := Int32.le_iff_toInt_le
theorem iEq {a b : Int32} : a = b ↔ a.toInt = b.toInt := Int32.toInt_inj.symm
theorem iRg (x : Int32) : -2147483648 ≤ x.toInt ∧ x.toInt ≤ 2147483647 := fullI_ok x
theorem iNlt {a b : Int32} (h : ¬ a < b) : b.toInt ≤ a.toInt := by rw [iLt] at h; omega
theorem iNle {a b : Int32} (h : ¬ a ≤ b) : b.toInt < a.toInt := by rw [iLe] at h; omega
theorem iBm {z : Int} (h1 : -2147483648 ≤ z) (h2 : z ≤ 2147483647) : z.bmod (2 ^ 32) = z := by
  unfold Int.bmod
  simp only [Nat.reducePow]
  omega
theorem iAdd {x y : Int32} (h1 : -2147483648 ≤ x.toInt + y.toInt) (h2 : x.toInt + y.toInt ≤ 2147483647) : (x + y).toInt = x.toInt + y.toInt := by rw [Int32.toInt_add, iBm h1 h2]
theorem iSub {x y : Int32} (h1 : -2147483648 ≤ x.toInt - y.toInt) (h2 : x.toInt - y.toInt ≤ 2147483647) : (x - y).toInt = x.toInt - y.toInt := by rw [Int32.toInt_sub, iBm h1 h2]
theorem iMul {x y : Int32} (h1 : -2147483648 ≤ x.toInt * y.toInt) (h2 : x.toInt * y.toInt ≤ 2147483647) : (x * y).toInt = x.toInt * y.toInt := by rw [Int32.toInt_mul, iBm h1 h2]
theorem iIn {x : Int32} {n : Nat} (h0 : 0 ≤ x.toInt) (h1 : x.toInt < n) : vp_in x n := vp_in_iff.mpr ⟨h0, h1⟩
theorem iCl {x : Int32} (h0 : 0 ≤ x.toInt) : (x.toNatClampNeg : Int) = x.toInt := by show ((x.toInt.toNat : Nat) : Int) = x.toInt; omega
section JR
variable {p : Program} {l : Launch} {e : Env} {R : Room} {s : State} {m : MethodId} {args : Array Value} {below : List Frame} {meth : Method} {c : Code} {H : Heap} {locs : List Loc} {cells slots : Nat} {Q : State → Prop}
variable {cc : ByteArray} {nL pc tgt : Nat} {ls : Array Slot} {rest : List Value} {D : va_G} {kA : Nat → ClassId} {M : mM} {T : mT} {A : Nat → Prop} {a : Nat} {H0 : Heap} {own : String} {idx ci k τ : Nat} {ty : FieldType} {fs : List Value} {v : Value} {off : Int} {x y : Int32}
theorem lv_cst {x v : Int32} (h : x = v) (k : W p l e R s m args below meth c H locs cells slots Q (F0 m pc ls (.int v :: rest))) : W p l e R s m args below meth c H locs cells slots Q (F0 m pc ls (.int x :: rest)) := h ▸ k
theorem jif_eq (hx : p.tables.exec = Jvm.exec) (hb : c.code = cc) (hdg : decode cc pc = .ok (.ifCond .eq off, 3)) (ht : (pc : Int) + off = (tgt : Int)) (kt : x.toInt = 0 → W p l e R s m args below meth c H locs cells slots Q (F0 m tgt ls rest)) (kf : x.toInt ≠ 0 → W p l e R s m args below meth c H locs cells slots Q (F0 m (pc + 3) ls rest)) : W p l e R s m args below meth c H locs cells slots Q (F0 m pc ls (.int x :: rest)) := lv_if_eq hx hb hdg ht (fun h => kt (iEq.mp h)) (fun h => kf (fun z => h (iEq.mpr z)))
theorem jif_ne (hx : p.tables.exec = Jvm.exec) (hb : c.code = cc) (hdg : decode cc pc = .ok (.ifCond .ne off, 3)) (ht : (pc : Int) + off = (tgt : Int)) (kt : x.toInt ≠ 0 → W p l e R s m args below meth c H locs cells slots Q (F0 m tgt ls rest)) (kf : x.toInt = 0 → W p l e R s m args below meth c H locs cells slots Q (F0 m (pc + 3) ls rest)) : W p l e R s m args below meth c H locs cells slots Q (F0 m pc ls (.int x :: rest)) := lv_if_ne hx hb hdg ht (fun h => kt (fun z => h (iEq.mpr z))) (fun h => kf (iEq.mp h))
theorem jif_lt (hx : p.tables.exec = Jvm.exec) (hb : c.code = cc) (hdg : decode cc pc = .ok (.ifCond .lt off, 3)) (ht : (pc : Int) + off = (tgt : Int)) (kt : x.toInt < 0 → W p l e R s m args below meth c H locs cells slots Q (F0 m tgt ls rest)) (kf : 0 ≤ x.toInt → W p l e R s m args below meth c H locs cells slots Q (F0 m (pc + 3) ls rest)) : W p l e R s m args below meth c H locs cells slots Q (F0 m pc ls (.int x :: rest)) := lv_if_lt hx hb hdg ht (fun h => kt (iLt.mp h)) (fun h => kf (iNlt h))
theorem jif_ge (hx : p.tables.exec = Jvm.exec) (hb : c.code = cc) (hdg : decode cc pc = .ok (.ifCond .ge off, 3)) (ht : (pc : Int) + off = (tgt : Int)) (kt : 0 ≤ x.toInt → W p l e R s m args below meth c H locs cells slots Q (F0 m tgt ls rest)) (kf : x.toInt < 0 → W p l e R s m args below meth c H locs cells slots Q (F0 m (pc + 3) ls rest)) : W p l e R s m args below meth c H locs cells slots Q (F0 m pc ls (.int x :: rest)) := lv_if_ge hx hb hdg ht (fun h => kt (iLe.mp h)) (fun h => kf (iNle h))
theorem jif_gt (hx : p.tables.exec = Jvm.exec) (hb : c.code = cc) (hdg : decode cc pc = .ok (.ifCond .gt off, 3)) (ht : (pc : Int) + off = (tgt : Int)) (kt : 0 < x.toInt → W p l e R s m args below meth c H locs cells slots Q (F0 m tgt ls rest)) (kf : x.toInt ≤ 0 → W p l e R s m args below meth c H locs cells slots Q (F0 m (pc + 3) ls rest)) : W p l e R s m args below meth c H locs cells slots Q (F0 m pc ls (.int x :: rest)) := lv_if_gt hx hb hdg ht (fun h => kt (iLt.mp h)) (fun h => kf (iNlt h))
theorem jif_le (hx : p.tables.exec = Jvm.exec) (hb : c.code = cc) (hdg : decode cc pc = .ok (.ifCond .le off, 3)) (ht : (pc : Int) + off = (tgt : Int)) (kt : x.toInt ≤ 0 → W p l e R s m args below meth c H locs cells slots Q (F0 m tgt ls rest)) (kf : 0 < x.toInt → W p l e R s m args below meth c H locs cells slots Q (F0 m (pc + 3) ls rest)) : W p l e R s m args below meth c H locs cells slots Q (F0 m pc ls (.int x :: rest)) := lv_if_le hx hb hdg ht (fun h => kt (iLe.mp h)) (fun h => kf (iNle h))
theorem jic_eq (hx : p.tables.exec = Jvm.exec) (hb : c.code = cc) (hdg : decode cc pc = .ok (.if_icmp .eq off, 3)) (ht : (pc : Int) + off = (tgt : Int)) (kt : x.toInt = y.toInt → W p l e R s m args below meth c H locs cells slots Q (F0 m tgt ls rest)) (kf : x.toInt ≠ y.toInt → W p l e R s m args below meth c H locs cells slots Q (F0 m (pc + 3) ls rest)) : W p l e R s m args below meth c H locs cells slots Q (F0 m pc ls (.int y :: .int x :: rest)) := lv_icmp_eq hx hb hdg ht (fun h => kt (iEq.mp h)) (fun h => kf (fun z => h (iEq.mpr z)))
theorem jic_ne (hx : p.tables.exec = Jvm.exec) (hb : c.code = cc) (hdg : decode cc pc = .ok (.if_icmp .ne off, 3)) (ht : (pc : Int) + off = (tgt : Int)) (kt : x.toInt ≠ y.toInt → W p l e R s m args below meth c H locs cells slots Q (F0 m tgt ls rest)) (kf : x.toInt = y.toInt → W p l e R s m args below meth c H locs cells slots Q (F0 m (pc + 3) ls rest)) : W p l e R s m args below meth c H locs cells slots Q (F0 m pc ls (.int y :: .int x :: rest)) := lv_icmp_ne hx hb hdg ht (fun h => kt (fun z => h (iEq.mpr z))) (fun h => kf (iEq.mp h))
theorem jic_lt (hx : p.tables.exec = Jvm.exec) (hb : c.code = cc) (hdg : decode cc pc = .ok (.if_icmp .lt off, 3)) (ht : (pc : Int) + off = (tgt : Int)) (kt : x.toInt < y.toInt → W p l e R s m args below meth c H locs cells slots Q (F0 m tgt ls rest)) (kf : y.toInt ≤ x.toInt → W p l e R s m args below meth c H locs cells slots Q (F0 m (pc + 3) ls rest)) : W p l e R s m args below meth c H locs cells slots Q (F0 m pc ls (.int y :: .int x :: rest)) := lv_icmp_lt hx hb hdg ht (fun h => kt (iLt.mp h)) (fun h => kf (iNlt h))
theorem jic_ge (hx : p.tables.exec = Jvm.exec) (hb : c.code = cc) (hdg : decode cc pc = .ok (.if_icmp .ge off, 3)) (ht : (pc : Int) + off = (tgt : Int)) (kt : y.toInt ≤ x.toInt → W p l e R s m args below meth c H locs cells slots Q (F0 m tgt ls rest)) (kf : x.toInt < y.toInt → W p l e R s m args below meth c H locs cells slots Q (F0 m (pc + 3) ls rest)) : W p l e R s m args below meth c H locs cells slots Q (F0 m pc ls (.int y :: .int x :: rest)) := lv_icmp_ge hx hb hdg ht (fun h => kt (iLe.mp h)) (fun h => kf (iNle h))
theorem jic_gt (hx : p.tables.exec = Jvm.exec) (hb : c.code = cc) (hdg : decode cc pc = .ok (.if_icmp .gt off, 3)) (ht : (pc : Int) + off = (tgt : Int)) (kt : y.toInt < x.toInt → W p l e R s m args below meth c H locs cells slots Q (F0 m tgt ls rest)) (kf : x.toInt ≤ y.toInt → W p l e R s m args below meth c H locs cells slots Q (F0 m (pc + 3) ls rest)) : W p l e R s m args below meth c H locs cells slots Q (F0 m pc ls (.int y :: .int x :: rest)) := lv_icmp_gt hx hb hdg ht (fun h => kt (iLt.mp h)) (fun h => kf (iNlt h))
theorem jic_le (hx : p.tables.exec = Jvm.exec) (hb : c.code = cc) (hdg : decode cc pc = .ok (.if_icmp .le off, 3)) (ht : (pc : Int) + off = (tgt : Int)) (kt : x.toInt ≤ y.toInt → W p l e R s m args below meth c H locs cells slots Q (F0 m tgt ls rest)) (kf : y.toInt < x.toInt → W p l e R s m args below meth c H locs cells slots Q (F0 m (pc + 3) ls rest)) : W p l e R s m args below meth c H locs cells slots Q (F0 m pc ls (.int y :: .int x :: rest)) := lv_icmp_le hx hb hdg ht (fun h => kt (iLe.mp h)) (fun h => kf (iNle h))
/-- the writes, naming the new world -/
theorem yp (hC : CallFix p m c cc nL s args TB own) (hK : mK D kA s) (hH : mS D kA M T A H0 H locs) (hf : FL own idx ci k ty false) (he : M a = some (.inr (ci, fs))) (hn : narrow ty v = v) (hfit : fits ty v = true) (hl : k < fs.length) (hdg : decode cc pc = .ok (.putfield idx, 3))
    (kk : ∀ (H1 : Heap) (locs1 : List Loc) (M1 : mM), M1 a = some (.inr (ci, fs.set k v)) → (∀ q, q ≠ a → M1 q = M q) → mS D kA M1 T A H0 H1 locs1 → W p l e R s m args below meth c H1 locs1 cells slots Q (F0 m (pc + 3) ls rest)) : W p l e R s m args below meth c H locs cells slots Q (F0 m pc ls (v :: .ref a :: rest)) :=
  xp hC hK hH hf he hn hfit hl hdg (fun H1 locs1 h => kk H1 locs1 _ (upS _ _ _) (fun _ hq => upN _ _ hq) h)
theorem ypF (hC : CallFix p m c cc nL s args TB own) (hK : mK D kA s) (hH : mS D kA M T A H0 H locs) (hini : meth.name = "<init>") (hfd : FLd own ci k) (hf : FL own idx ci k ty true) (he : M a = some (.inr (ci, fs))) (hn : narrow ty v = v) (hfit : fits ty v = true) (hl : k < fs.length) (hdg : decode cc pc = .ok (.putfield idx, 3))
    (kk : ∀ (H1 : Heap) (locs1 : List Loc) (M1 : mM), M1 a = some (.inr (ci, fs.set k v)) → (∀ q, q ≠ a → M1 q = M q) → mS D kA M1 T A H0 H1 locs1 → W p l e R s m args below meth c H1 locs1 cells slots Q (F0 m (pc + 3) ls rest)) : W p l e R s m args below meth c H locs cells slots Q (F0 m pc ls (v :: .ref a :: rest)) :=
  xpF hC hK hH hini hfd hf he hn hfit hl hdg (fun H1 locs1 h => kk H1 locs1 _ (upS _ _ _) (fun _ hq => upN _ _ hq) h)
theorem yist (hC : CallFix p m c cc nL s args TB own) (hK : mK D kA s) (hH : mS D kA M T A H0 H locs) {n : Nat} {f : Nat → Int32} (he : M a = some (.inl (kA 0, n, .inl f))) {i x : Int32} (hin : vp_in i n) (hdg : decode cc pc = .ok (.iastore, 1))
    (kk : ∀ (H1 : Heap) (locs1 : List Loc) (M1 : mM), M1 a = some (.inl (kA 0, n, .inl (upd f i.toNatClampNeg x))) → (∀ q, q ≠ a → M1 q = M q) → mS D kA M1 T A H0 H1 locs1 → W p l e R s m args below meth c H1 locs1 cells slots Q (F0 m (pc + 1) ls rest)) : W p l e R s m args below meth c H locs cells slots Q (F0 m pc ls (.int x :: .int i :: .ref a :: rest)) :=
  xist hC hK hH he hin hdg (fun H1 locs1 h => kk H1 locs1 _ (upS _ _ _) (fun _ hq => upN _ _ hq) h)
theorem yzst (hC : CallFix p m c cc nL s args TB own) (hK : mK D kA s) (hH : mS D kA M T A H0 H locs) {n : Nat} {f : Nat → Int32} (he : M a = some (.inl (kA 2, n, .inl f))) {i x : Int32} (hin : vp_in i n) (hdg : decode cc pc = .ok (.bastore, 1))
    (kk : ∀ (H1 : Heap) (locs1 : List Loc) (M1 : mM), M1 a = some (.inl (kA 2, n, .inl (upd f i.toNatClampNeg (vp_nar .boolean x)))) → (∀ q, q ≠ a → M1 q = M q) → mS D kA M1 T A H0 H1 locs1 → W p l e R s m args below meth c H1 locs1 cells slots Q (F0 m (pc + 1) ls rest)) : W p l e R s m args below meth c H locs cells slots Q (F0 m pc ls (.int x :: .int i :: .ref a :: rest)) :=
  xzst hC hK hH he hin hdg (fun H1 locs1 h => kk H1 locs1 _ (upS _ _ _) (fun _ hq => upN _ _ hq) h)
theorem yqst (hC : CallFix p m c cc nL s args TB own) (hK : mK D kA s) (hH : mS D kA M T A H0 H locs) {n ck cv v : Nat} {f : Nat → Option Nat} {r : vw_C} (hk : (tyL kA)[ck]? = some (kA ck, .object r.1)) (hc : vwCl[cv]? = some r) (he : M a = some (.inl (kA ck, n, .inr (.inr (.inr (.inr f)))))) (hv : ∃ vs, va_at D vwCl (v, .inr (cv, vs)) H) {i : Int32} (hin : vp_in i n) (hdg : decode cc pc = .ok (.aastore, 1))
    (kk : ∀ (H1 : Heap) (locs1 : List Loc) (M1 : mM), M1 a = some (.inl (kA ck, n, .inr (.inr (.inr (.inr (va_up f i.toNatClampNeg (some v))))))) → (∀ q, q ≠ a → M1 q = M q) → mS D kA M1 T A H0 H1 locs1 → W p l e R s m args below meth c H1 locs1 cells slots Q (F0 m (pc + 1) ls rest)) : W p l e R s m args below meth c H locs cells slots Q (F0 m pc ls (.ref v :: .int i :: .ref a :: rest)) :=
  xqst hC hK hH hk hc he hv hin hdg (fun H1 locs1 h => kk H1 locs1 _ (upS _ _ _) (fun _ hq => upN _ _ hq) h)
theorem ynew (hC : CallFix p m c cc nL s args TB own) (hK : mK D kA s) (hH : mS D kA M T A H0 H locs) {N : Nat} (hf : NL own idx ci N fs) (hcells : cells + 1 ≤ R.cells) (hslots : slots + N ≤ R.slots) (hdg : decode cc pc = .ok (.new idx, 3))
    (kk : ∀ (q : Nat) (H1 : Heap) (M1 : mM), q = H.size → H1.size = q + 1 → M q = none → T q = none → M1 q = some (.inr (ci, fs)) → (∀ a, a ≠ q → M1 a = M a) → mS D kA M1 T A H0 H1 locs → W p l e R s m args below meth c H1 locs (cells + 1) (slots + N) Q (F0 m (pc + 3) ls (.ref q :: rest))) : W p l e R s m args below meth c H locs cells slots Q (F0 m pc ls rest) :=
  xnew hC hK hH hf hcells hslots hdg (fun q H1 h1 h2 h3 h4 h => kk q H1 _ h1 h2 h3 h4 (upS _ _ _) (fun _ hq => upN _ _ hq) h)
theorem ynewa (hC : CallFix p m c cc nL s args TB own) (hK : mK D kA s) (hH : mS D kA M T A H0 H locs) {atype : ArrayType} {ck : Nat} {ty : FieldType} (hty : newarray.typeOf atype = ty) (hw : Cond.arrayClass ty ∈ TB) (hck : (tyL kA)[ck]? = some (kA ck, ty)) (hpr : ∀ C, ty ≠ .object C) {n : Int32} {N : Nat} {a0 : vp_A} (ha : ∀ cA : ClassId, vp_cell cA a0 = arrV cA N (fun _ => defaultValue ty)) (hn : ¬ n < 0) (hN : n.toNatClampNeg = N) (hbytes : N * componentBytes ty ≤ 536870912) (hcells : cells + 1 ≤ R.cells) (hslots : slots + N ≤ R.slots) (hdg : decode cc pc = .ok (.newarray atype, 2))
    (kk : ∀ (q : Nat) (H1 : Heap) (M1 : mM), q = H.size → H1.size = q + 1 → M q = none → T q = none → M1 q = some (.inl (kA ck, a0)) → (∀ a, a ≠ q → M1 a = M a) → mS D kA M1 T A H0 H1 locs → W p l e R s m args below meth c H1 locs (cells + 1) (slots + N) Q (F0 m (pc + 2) ls (.ref q :: rest))) : W p l e R s m args below meth c H locs cells slots Q (F0 m pc ls (.int n :: rest)) :=
  xnewa hC hK hH hty hw hck hpr ha hn hN hbytes hcells hslots hdg (fun q H1 h1 h2 h3 h4 h => kk q H1 _ h1 h2 h3 h4 (upS _ _ _) (fun _ hq => upN _ _ hq) h)
theorem ynewq (hC : CallFix p m c cc nL s args TB own) (hK : mK D kA s) (hH : mS D kA M T A H0 H locs) {ck : Nat} {C : String} (hw : Cond.classLink own idx C ∈ TB) (hao : C ∈ aoQ) (hck : (tyL kA)[ck]? = some (kA ck, .object C)) {n : Int32} {N : Nat} (hn : ¬ n < 0) (hN : n.toNatClampNeg = N) (hbytes : N * 4 ≤ 536870912) (hcells : cells + 1 ≤ R.cells) (hslots : slots + N ≤ R.slots) (hdg : decode cc pc = .ok (.anewarray idx, 3))
    (kk : ∀ (q : Nat) (H1 : Heap) (M1 : mM), q = H.size → H1.size = q + 1 → M q = none → T q = none → M1 q = some (.inl (kA ck, N, .inr (.inr (.inr (.inr (fun _ => none)))))) → (∀ a, a ≠ q → M1 a = M a) → mS D kA M1 T A H0 H1 locs → W p l e R s m args below meth c H1 locs (cells + 1) (slots + N) Q (F0 m (pc + 3) ls (.ref q :: rest))) : W p l e R s m args below meth c H locs cells slots Q (F0 m pc ls (.int n :: rest)) :=
  xnewq hC hK hH hw hao hck hn hN hbytes hcells hslots hdg (fun q H1 h1 h2 h3 h4 h => kk q H1 _ h1 h2 h3 h4 (upS _ _ _) (fun _ hq => upN _ _ hq) h)
theorem mS.re2 (h : mS D kA M T A H0 H locs) {e0 : va_E} (he : M a = some e0) (hc : conf kA (va_up T a (some τ)) τ e0) : ∃ (M1 : mM) (T1 : mT), M1 a = none ∧ (∀ q, q ≠ a → M1 q = M q) ∧ T1 a = some τ ∧ (∀ q, q ≠ a → T1 q = T q) ∧ (∀ q t, T q = some t → T1 q = some t) ∧ mS D kA M1 T1 A H0 H locs :=
  ⟨_, _, upS _ _ _, fun _ hq => upN _ _ hq, upS _ _ _, fun _ hq => upN _ _ hq, fun q t hq => by
    have n2 : T a = none := h.1.TN (by rw [he]; simp)
    have hab : q ≠ a := fun z => by rw [z, n2] at hq; cases hq
    rw [upN _ _ hab]; exact hq, h.re he hc⟩
theorem mS.reloc {locs' : List Loc} (h : mS D kA M T A H0 H locs) (hl : ∀ q ∈ locs', A q.base) : mS D kA M T A H0 H locs' := ⟨h.1, ⟨h.2.1.1, h.2.1.2.1, hl⟩, h.2.2⟩
/-- System.arraycopy of numbers -/
def CPL (own : String) (idx : Nat) : Prop := Cond.methodLink own idx arraycopyName ∈ TB ∧ Cond.native arraycopyName ∈ TB ∧ Cond.static arraycopyName ∈ TB ∧ Cond.initialized "java/lang/System" ∈ TB
theorem cpy_at (hC : CallFix p m c cc nL s args TB own) (hK : mK D kA s) (hsz : ls.size = nL) (hl : CPL own idx) {ck n0 n1 a0 : Nat} {f g : Nat → Int32} {ty : FieldType} (hk : (tyL kA)[ck]? = some (kA ck, ty)) (hprim : refKind ty = false) (h0 : va_at D vwCl (a0, .inl (kA ck, n0, .inl f)) H) (h9 : va_at D vwCl (a, .inl (kA ck, n1, .inl g)) H)
    {sp dp n : Int32} (h1 : ¬ sp < 0) (h2 : ¬ dp < 0) (h3 : ¬ n < 0) (h4 : sp.toNatClampNeg + n.toNatClampNeg ≤ n0) (h5 : dp.toNatClampNeg + n.toNatClampNeg ≤ n1) (hfit : ∀ i, i < n.toNatClampNeg → fits ty (.int (f (sp.toNatClampNeg + i))) = true)
    (hframes : 1 ≤ R.frames) (hlocals : (rest.map fun v => v.category).sum + (nativeFrameWords "java/lang/System" "arraycopy" 5 + 11) ≤ R.locals) (hdg : decode cc pc = .ok (.invokestatic idx, 3))
    (kk : ∀ (H1 : Heap) (L : List Loc), (∀ q ∈ L, q.base = a) → va_at D vwCl (a, .inl (kA ck, n1, .inl (va_cpy f g sp.toNatClampNeg dp.toNatClampNeg n.toNatClampNeg))) H1 → H1.size = H.size → (∀ q : Nat, q ≠ a → H1[q]? = H[q]?) → W p l e R s m args below meth c H1 (locs ++ L) cells slots Q (F0 m (pc + 3) ls rest)) : W p l e R s m args below meth c H locs cells slots Q (F0 m pc ls (.int n :: .int dp :: .ref a :: .int sp :: .ref a0 :: rest)) := by
  obtain ⟨hexec, hb, hml, hown, htt⟩ := hC
  obtain ⟨l1, l2, l3, l4⟩ := hl
  have nn : ∀ z : Int32, ¬ z < 0 → z.toInt = (z.toNatClampNeg : Int) := by
    intro z hz
    have hz0 : (0 : Int) ≤ z.toInt := by
      have := Int32.not_lt.mp hz
      simpa using Int32.le_iff_toInt_le.mp this
    show z.toInt = ((z.toInt.toNat : Nat) : Int)
    omega
  intro T hT X
  have hc0 : H[a0]? = some (vp_cell (kA ck) (n0, .inl f)) := h0
  have hc1 : H[a]? = some (vp_cell (kA ck) (n1, .inl g)) := h9
  obtain ⟨-, k0, hk0, cm0, hkk0⟩ := (hK.1.2 ck _ hk).1 n0 (fun j => .int (f j))
  obtain ⟨vm', X', step⟩ := X.arraycopy hexec hown (htt _ l1) (htt _ l2) (htt _ l3) (htt _ l4) (src := a0) (dst := a) (cs := vp_cell (kA ck) (n0, .inl f)) (cd := vp_cell (kA ck) (n1, .inl g)) (srcPos := sp) (destPos := dp) (n := n) (by rw [hT]; exact hc0) (by rw [hT]; exact hc1)
    (fun _ h => by cases h) (fun _ h => by cases h) (fun h => by cases h) (fun h => by cases h) hk0 hk0 hkk0 hkk0 (by simp [hprim]) h1 h2 h3
    (by rw [nn sp h1, nn n h3]; show ¬ _ > ((arrV (kA ck) n0 (fun j => .int (f j))).slots.size : Int); rw [arrV_size]; omega)
    (by rw [nn dp h2, nn n h3]; show ¬ _ > ((arrV (kA ck) n1 (fun j => .int (g j))).slots.size : Int); rw [arrV_size]; omega)
    (fun vm₁ _ i hi => by
      have e : (vp_cell (kA ck) (n0, .inl f)).slots.getD (sp.toNatClampNeg + i) .null = .int (f (sp.toNatClampNeg + i)) := by
        show (arrV (kA ck) n0 (fun j => .int (f j))).slots.getD _ _ = _
        rw [Array.getD_eq_getD_getElem?, arrV_read _ _ (by omega)]
        rfl
      refine ⟨?_, ?_⟩
      · rw [e]
        exact hfit i hi
      · rw [e]
        exact trivial)
    (g := F0 m pc ls (.int n :: .int dp :: .ref a :: .int sp :: .ref a0 :: rest)) rfl (by rw [hml]; exact hsz) (rest := rest) rfl (by rw [hb]; exact hdg) hframes (by show 2 * 0 + _ + _ ≤ _; omega)
  have e1 : copied (vp_cell (kA ck) (n0, .inl f)) (vp_cell (kA ck) (n1, .inl g)) sp dp n = vp_cell (kA ck) (n1, .inl (va_cpy f g sp.toNatClampNeg dp.toNatClampNeg n.toNatClampNeg)) := va_copied (fun z => .int z) (kA ck) (kA ck) f g h4
  rw [e1] at X' step
  have hl : a < H.size := (Array.getElem?_eq_some_iff.mp hc1).1
  have hheap : ((T.setVm vm').setCell a (vp_cell (kA ck) (n1, .inl (va_cpy f g sp.toNatClampNeg dp.toNatClampNeg n.toNatClampNeg)))).heap = H.setIfInBounds a (vp_cell (kA ck) (n1, .inl (va_cpy f g sp.toNatClampNeg dp.toNatClampNeg n.toNatClampNeg))) := by rw [← hT]; rfl
  have oq : ∀ q : Nat, q ≠ a → (H.setIfInBounds a (vp_cell (kA ck) (n1, .inl (va_cpy f g sp.toNatClampNeg dp.toNatClampNeg n.toNatClampNeg))))[q]? = H[q]? := fun q hq => by simp [Array.getElem?_setIfInBounds, Ne.symm hq]
  obtain ⟨t, a1, b1⟩ := kk _ _ (fun q hq => by
      obtain ⟨z, -, hz⟩ := List.mem_map.mp hq
      rw [← hz]) (show (H.setIfInBounds a _)[a]? = some _ by simp [Array.getElem?_setIfInBounds, hl]) (by simp) oq _ hheap X'
  exact ⟨t, step t a1, b1⟩
end JR
end
section
theorem neM {M : mM} {a b : Nat} {ea eb : va_E} (ha : M a = some ea) (hb : M b = some eb) (h : ¬ ea = eb) : a ≠ b := fun z => h (by rw [z, hb] at ha; exact (Option.some.inj ha).symm)
theorem nz {x : Int32} (h : x = 0 ∨ x = 1) : narrow .boolean (.int x) = .int x := by rcases h with rfl | rfl <;> rfl
theorem fz {x : Int32} (h : x = 0 ∨ x = 1) : fits .boolean (.int x) = true := by rcases h with rfl | rfl <;> rfl
theorem z01 {x : Int32} (h1 : (0 : Int) ≤ x.toInt) (h2 : x.toInt ≤ 1) : x = 0 ∨ x = 1 := by
  rcases (show x.toInt = 0 ∨ x.toInt = 1 by omega) with h | h
  · exact Or.inl (iEq.mpr h)
  · exact Or.inr (iEq.mpr h)
theorem zl {x : Int32} (h : x = 0 ∨ x = 1) : (0 : Int) ≤ x.toInt := by rcases h with rfl | rfl <;> decide
theorem zh {x : Int32} (h : x = 0 ∨ x = 1) : x.toInt ≤ (1 : Int) := by rcases h with rfl | rfl <;> decide
theorem nbl (x : Int32) : (-128 : Int) ≤ (vp_nar .byte x).toInt := by
  rw [vp_nar_byte, Int8.toInt_toInt32]
  have := Int8.minValue_le_toInt x.toInt8
  have e : Int8.minValue.toInt = -128 := by decide
  omega
theorem nbh (x : Int32) : (vp_nar .byte x).toInt ≤ (127 : Int) := by
  rw [vp_nar_byte, Int8.toInt_toInt32]
  have := Int8.toInt_le x.toInt8
  have e : Int8.maxValue.toInt = 127 := by decide
  omega
def c100 (f : Nat → Int32) : Nat → Int32 := upd (upd (upd (upd (upd (upd (upd (upd f 0 100) 1 100) 2 100) 3 100) 4 100) 5 100) 6 100) 7 100
theorem c100_at (f : Nat → Int32) {j : Nat} (h : j < 8) : c100 f j = 100 := by
  rcases (show j = 0 ∨ j = 1 ∨ j = 2 ∨ j = 3 ∨ j = 4 ∨ j = 5 ∨ j = 6 ∨ j = 7 by omega) with rfl | rfl | rfl | rfl | rfl | rfl | rfl | rfl <;> rfl
def mIni : Nat → Int32 := fun k => if k = 2 then 2 else if 6 ≤ k ∧ k < 14 then 100 else 0
theorem mIni_cash {k : Nat} (h : 6 ≤ k) (h2 : k < 14) : mIni k = 100 := by
  unfold mIni
  rw [if_neg (by omega), if_pos ⟨h, h2⟩]
def mBeg (f : Nat → Int32) : Nat → Int32 := fun k => if k < 1140 then mIni k else f k
theorem mBeg_at (f : Nat → Int32) {k : Nat} (h : k < 1140) : mBeg f k = mIni k := if_pos h
theorem mBeg_cash (f : Nat → Int32) {k : Nat} (h : 6 ≤ k) (h2 : k < 14) : mBeg f k = 100 := by
  rw [mBeg_at f (by omega)]
  unfold mIni
  rw [if_neg (by omega), if_pos ⟨h, h2⟩]
theorem iSubW {x y : Int32} (h : -4294967296 ≤ x.toInt - y.toInt ∧ x.toInt - y.toInt < -2147483648) : (x - y).toInt = x.toInt - y.toInt + 4294967296 := by
  rw [Int32.toInt_sub]
  unfold Int.bmod
  simp only [Nat.reducePow]
  omega
theorem iAddW {x y : Int32} (h : 2147483647 < x.toInt + y.toInt ∧ x.toInt + y.toInt < 4294967296) : (x + y).toInt = x.toInt + y.toInt - 4294967296 := by
  rw [Int32.toInt_add]
  unfold Int.bmod
  simp only [Nat.reducePow]
  omega
section QR
variable {p : Program} {l : Launch} {e : Env} {R : Room} {s : State} {m : MethodId} {args : Array Value} {below : List Frame} {meth : Method} {c : Code} {H : Heap} {locs : List Loc} {cells slots : Nat} {Q : State → Prop}
variable {cc : ByteArray} {nL pc : Nat} {ls : Array Slot} {rest : List Value} {D : va_G} {kA : Nat → ClassId} {M : mM} {T : mT} {A : Nat → Prop} {a : Nat} {H0 : Heap} {own : String} {idx ci k τ : Nat} {ty : FieldType}
theorem lv_qr {r : Option Nat} {q : Nat} (h : r = some q) (k : W p l e R s m args below meth c H locs cells slots Q (F0 m pc ls (.ref q :: rest))) : W p l e R s m args below meth c H locs cells slots Q (F0 m pc ls (va_rf r :: rest)) := by subst h; exact k
theorem lv_qn {r : Option Nat} (h : r = none) (k : W p l e R s m args below meth c H locs cells slots Q (F0 m pc ls (.null :: rest))) : W p l e R s m args below meth c H locs cells slots Q (F0 m pc ls (va_rf r :: rest)) := by subst h; exact k
/-- copies from a row of a tag to a row of that tag; between rows known exactly -/
theorem fit8 {x : Int32} (h1 : (-128 : Int) ≤ x.toInt) (h2 : x.toInt ≤ 127) : fits .byte (.int x) = true := by
  have e : x = x.toInt8.toInt32 := by
    apply Int32.toInt_inj.mp
    rw [Int8.toInt_toInt32, Int32.toInt_toInt8]
    unfold Int.bmod
    simp only [Nat.reducePow]
    omega
  rw [e]
  exact pk_fb x
theorem tcpy (hC : CallFix p m c cc nL s args TB own) (hK : mK D kA s) (hH : mS D kA M T A H0 H locs) (hsz : ls.size = nL) (hl : CPL own idx) {a0 ck n0 : Nat} {r : Int × Int} (ht0 : T a0 = some τ) (ht1 : T a = some τ) (hsp : tsp τ = .inr (ck, n0, .inl r)) (hk : (tyL kA)[ck]? = some (kA ck, ty)) (hprim : refKind ty = false) (hfr : ∀ x : Int32, r.1 ≤ x.toInt → x.toInt ≤ r.2 → fits ty (.int x) = true)
    {sp dp n : Int32} (h1 : ¬ sp < 0) (h2 : ¬ dp < 0) (h3 : ¬ n < 0) (h4 : sp.toNatClampNeg + n.toNatClampNeg ≤ n0) (h5 : dp.toNatClampNeg + n.toNatClampNeg ≤ n0)
    (hframes : 1 ≤ R.frames) (hlocals : (rest.map fun v => v.category).sum + (nativeFrameWords "java/lang/System" "arraycopy" 5 + 11) ≤ R.locals) (hdg : decode cc pc = .ok (.invokestatic idx, 3))
    (kk : ∀ (H1 : Heap) (locs1 : List Loc), mS D kA M T A H0 H1 locs1 → W p l e R s m args below meth c H1 locs1 cells slots Q (F0 m (pc + 3) ls rest)) : W p l e R s m args below meth c H locs cells slots Q (F0 m pc ls (.int n :: .int dp :: .ref a :: .int sp :: .ref a0 :: rest)) := by
  obtain ⟨f, g1, g2⟩ := tcellI hH ht0 hsp
  obtain ⟨g, g3, g4⟩ := tcellI hH ht1 hsp
  refine cpy_at hC hK hsz hl hk hprim g1 g3 h1 h2 h3 h4 h5 (fun i hi => hfr _ (g2 _ (by omega)).1 (g2 _ (by omega)).2) hframes hlocals hdg (fun H1 L hL h z oq => kk H1 _ ?_)
  have hS1 := hH.putT (k := 0) ht1 h (by
    unfold conf
    rw [hsp]
    refine ⟨_, rfl, fun j hj => ?_⟩
    unfold va_cpy
    split
    · exact g2 _ (by omega)
    · exact g4 j hj) z oq
  exact hS1.reloc (fun q hq => by
    rcases List.mem_append.mp hq with h | h
    · exact hH.2.1.2.2 q h
    · rw [hL q h]; exact hH.2.2.1 a (Or.inr (by rw [ht1]; simp)))
theorem ycpy (hC : CallFix p m c cc nL s args TB own) (hK : mK D kA s) (hH : mS D kA M T A H0 H locs) (hsz : ls.size = nL) (hl : CPL own idx) {a0 n0 n1 : Nat} {f g : Nat → Int32} (he0 : M a0 = some (.inl (kA 0, n0, .inl f))) (he1 : M a = some (.inl (kA 0, n1, .inl g)))
    {sp dp n : Int32} (h1 : ¬ sp < 0) (h2 : ¬ dp < 0) (h3 : ¬ n < 0) (h4 : sp.toNatClampNeg + n.toNatClampNeg ≤ n0) (h5 : dp.toNatClampNeg + n.toNatClampNeg ≤ n1)
    (hframes : 1 ≤ R.frames) (hlocals : (rest.map fun v => v.category).sum + (nativeFrameWords "java/lang/System" "arraycopy" 5 + 11) ≤ R.locals) (hdg : decode cc pc = .ok (.invokestatic idx, 3))
    (kk : ∀ (H1 : Heap) (locs1 : List Loc) (M1 : mM), M1 a = some (.inl (kA 0, n1, .inl (va_cpy f g sp.toNatClampNeg dp.toNatClampNeg n.toNatClampNeg))) → (∀ q, q ≠ a → M1 q = M q) → mS D kA M1 T A H0 H1 locs1 → W p l e R s m args below meth c H1 locs1 cells slots Q (F0 m (pc + 3) ls rest)) : W p l e R s m args below meth c H locs cells slots Q (F0 m pc ls (.int n :: .int dp :: .ref a :: .int sp :: .ref a0 :: rest)) := by
  refine cpy_at (ck := 0) (ty := .int) hC hK hsz hl rfl rfl (hH.1.1 _ _ he0) (hH.1.1 _ _ he1) h1 h2 h3 h4 h5 (fun i hi => rfl) hframes hlocals hdg (fun H1 L hL h z oq => ?_)
  have hS1 := hH.putM (k := 0) he1 h z oq
  exact kk H1 _ _ (upS _ _ _) (fun _ hq => upN _ _ hq) (hS1.reloc (fun q hq => by
    rcases List.mem_append.mp hq with h | h
    · exact hH.2.1.2.2 q h
    · rw [hL q h]; exact hH.2.2.1 a (Or.inl (by rw [he1]; simp))))
/-- Math.min -/
def MML (own : String) (idx : Nat) : Prop := Cond.methodLink own idx Lib.Math.min.name ∈ TB ∧ Cond.static Lib.Math.min.name ∈ TB ∧ Cond.initialized "java/lang/Math" ∈ TB ∧ Cond.code Lib.Math.min.name Lib.Math.min.code 2 (some .int) ∈ TB
theorem xmin (hC : CallFix p m c cc nL s args TB own) (hsz : ls.size = nL) (hl : MML own idx) (hframes : 1 ≤ R.frames) (hlocals : (rest.map fun v => v.category).sum + 13 ≤ R.locals) (hc : cells ≤ R.cells) (hs : slots ≤ R.slots) {x y : Int32} (hdg : decode cc pc = .ok (.invokestatic idx, 3))
    (kk : W p l e R s m args below meth c H locs cells slots Q (F0 m (pc + 3) ls (.int (if y < x then y else x) :: rest))) : W p l e R s m args below meth c H locs cells slots Q (F0 m pc ls (.int y :: .int x :: rest)) :=
  va_mmin hC.1 hC.2.1 (hC.2.2.1.trans hsz.symm) hC.2.2.2.1 (hC.2.2.2.2 _ hl.1) (hC.2.2.2.2 _ hl.2.1) (hC.2.2.2.2 _ hl.2.2.1) (hC.2.2.2.2 _ hl.2.2.2) hframes hlocals hc hs hdg kk
end QR
/-! cells become tagged -/
theorem neN {M : mM} {a q : Nat} {ea : va_E} (ha : M a = some ea) (hn : M q = none) : a ≠ q := fun z => by rw [z, hn] at ha; cases ha
def okL (T : mT) : List fS → List Value → Prop
  | [], [] => True
  | q :: qs, v :: vs => okV T q v ∧ okL T qs vs
  | _, _ => False
theorem okL_len {T : mT} : ∀ {qs : List fS} {vs : List Value}, okL T qs vs → vs.length = qs.length
  | [], [], _ => rfl
  | _ :: _, _ :: _, h => by rw [List.length_cons, List.length_cons, okL_len h.2]
theorem okL_at {T : mT} : ∀ {qs : List fS} {vs : List Value}, okL T qs vs → ∀ (k : Nat) (q : fS), qs[k]? = some q → ∃ v, vs[k]? = some v ∧ okV T q v
  | [], [], _, k, q, h => by simp at h
  | q0 :: qs, v0 :: vs, h, 0, q, hq => by
    rw [List.getElem?_cons_zero] at hq
    cases hq
    exact ⟨v0, rfl, h.1⟩
  | q0 :: qs, v0 :: vs, h, k + 1, q, hq => by
    rw [List.getElem?_cons_succ] at hq
    obtain ⟨v, h1, h2⟩ := okL_at h.2 k q hq
    exact ⟨v, by rw [List.getElem?_cons_succ]; exact h1, h2⟩
theorem conf_o {kA : Nat → ClassId} {T : mT} {τ ci : Nat} {sps : List fS} {fs : List Value} (h : tsp τ = .inl (ci, sps)) (ho : okL T sps fs) : conf kA T τ (.inr (ci, fs)) := by
  unfold conf
  rw [h]
  exact ⟨fs, rfl, okL_len ho, okL_at ho⟩
theorem conf_i {kA : Nat → ClassId} {T : mT} {τ ck n : Nat} {r : Int × Int} {f : Nat → Int32} (h : tsp τ = .inr (ck, n, .inl r)) (ho : ∀ j, j < n → r.1 ≤ (f j).toInt ∧ (f j).toInt ≤ r.2) : conf kA T τ (.inl (kA ck, n, .inl f)) := by
  unfold conf
  rw [h]
  exact ⟨f, rfl, ho⟩
theorem conf_q {kA : Nat → ClassId} {T : mT} {τ ck n t : Nat} {g : Nat → Option Nat} (h : tsp τ = .inr (ck, n, .inr t)) (ho : ∀ j, j < n → ∃ q, g j = some q ∧ T q = some t) : conf kA T τ (.inl (kA ck, n, .inr (.inr (.inr (.inr g))))) := by
  unfold conf
  rw [h]
  exact ⟨g, rfl, ho⟩
theorem okI {T : mT} {r : Int × Int} {x : Int32} (h1 : r.1 ≤ x.toInt) (h2 : x.toInt ≤ r.2) : okV T (.inl r) (.int x) := ⟨x, rfl, h1, h2⟩
theorem okR {T : mT} {t q : Nat} (h : T q = some t) : okV T (.inr t) (.ref q) := ⟨q, rfl, h⟩
end
section
/-! a method that reads the constant Verb.DAY -/
def mZ (vb : Nat) (A : Nat → Prop) (U : State) (H : Heap) : Prop := va_Z "BillRegistry$Verb" "DAY" "LBillRegistry$Verb;" (.ref vb) A U H
def mPcZ (D : va_G) (kA : Nat → ClassId) (M : mM) (T : mT) (sz vb : Nat) (as : List Value) : Array Value → State → Prop := va_Pc as (fun U => (U.heap.size = sz ∧ hp D kA M T U.heap ∧ mK D kA U) ∧ mZ vb (mA M T sz) U U.heap)
def mCvZ (l : Launch) (y : MethodName) (cc : ByteArray) (n : Nat) (d mc ms : Nat) (D : va_G) (kA : Nat → ClassId) (M : mM) (T : mT) (sz vb : Nat) (as : List Value) (P : mM × mT → Prop) : Prop := Met l y (wm y cc n none) (rmL d mc ms) (mPcZ D kA M T sz vb as) (va_Qv P (mB D kA M T sz) (mA M T sz)) mc ms (mA M T sz)
theorem start_WZ {l : Launch} {y : MethodName} {cc : ByteArray} {n : Nat} {r : Option FieldType} {rm : Room} {D : va_G} {kA : Nat → ClassId} {M : mM} {T : mT} {sz vb : Nat} {as : List Value} {Qc : Array Value → State → Outcome → State → Prop} {mc ms : Nat} {free : Addr → Prop} (hy : plainName y.cls = true) (hs : (lg_sl as).length ≤ n)
    (body : ∀ p e s m below meth c ls, CallFix p m c cc n s as.toArray TB y.cls → meth.sig.returnType = r → meth.locks = false → meth.name = y.name → mK D kA s → mS D kA M T (mA M T sz) s.heap s.heap [] → s.heap.size = sz → mZ vb (mA M T sz) s s.heap → lv_has ls n (lv_args 0 as) → W p l e rm s m as.toArray below meth c s.heap [] 0 0 (MQ below Qc as.toArray s mc ms free) (F0 m 0 ls [])) : Met l y (wm y cc n r) rm (mPcZ D kA M T sz vb as) Qc mc ms free := by
  refine Met.ofW (cc := cc) (maxL := n) (ret := r) hy rfl ?_
  intro p e s m args below meth c s₁ B hml hv
  obtain ⟨rfl, ⟨hsz, hP, hK⟩, hZ⟩ := hv
  have hts := atoms_spec (ws := wm y cc n r) B.pre
  have hl := lv_entry as (n := n) hs
  rw [lg_entry_eq]
  refine body p e s m below meth c _ ⟨B.exec, B.bytes, hml, findClass_of_methodNamed B.named, fun w hw => hts w (List.mem_cons_of_mem _ hw)⟩ B.returns B.notSynchronized (name_of_methodNamed B.named B.method).1 hK (by rw [← hsz]; exact mS_start hP) hsz hZ hl
section XZ
variable {p : Program} {l : Launch} {e : Env} {R : Room} {s : State} {m : MethodId} {args : Array Value} {below : List Frame} {meth : Method} {c : Code} {H : Heap} {locs : List Loc} {cells slots : Nat} {Q : State → Prop}
variable {cc : ByteArray} {nL pc : Nat} {ls : Array Slot} {rest : List Value} {D : va_G} {kA : Nat → ClassId} {M : mM} {T : mT} {A : Nat → Prop} {a : Nat} {own : String} {idx vb : Nat}
variable {y : MethodName} {bytes : ByteArray} {maxL np mc ms d b : Nat} {r : Option FieldType} {As st : List Value} {Qc : Array Value → State → Outcome → State → Prop} {free : Addr → Prop}
theorem blindZ {sz : Nat} {as : List Value} : FrameBlind (mPcZ D kA M T sz vb as) := fun a U g mk q => by
  obtain ⟨q0, ⟨q1, qP, qK⟩, qZ⟩ := q
  exact ⟨q0, ⟨q1, qP, qK.same rfl⟩, va_Z.moved (Vm.Alike.refl U.vm) qZ⟩
theorem preZ (hK : mK D kA s) (hH : mS D kA M T A s.heap H locs) (hZ : mZ vb A s s.heap) {as : List Value} : ∀ U : State, U.heap = H → s.WarmedH U.vm → mPcZ D kA M T H.size vb as as.toArray U := fun U hU hW =>
  ⟨rfl, ⟨by rw [hU], by rw [hU]; exact hH.1, hK.warm hW⟩, by
    rw [hU]
    exact va_Z.moved hW.alike ((va_Z.kept hZ (fun a h1 h2 => hH.2.1.2.1 a h1 h2)).narrow (mA_sub hH))⟩
theorem runIZ (hC : CallFix p m c cc nL s args TB own) (hK : mK D kA s) (hH : mS D kA M T A s.heap H locs) (hZ : mZ vb A s s.heap) (hM : Met l y (wm y bytes maxL none) (rmL d mc ms) (mPcZ D kA M T H.size vb (.ref b :: As)) Qc mc ms free) (hl : MLI own idx y bytes maxL np) (hR : rOK R d maxL mc ms cells slots) (hn : As.length = np) (hsz : ls.size = nL) (hst : st = As.reverse ++ .ref b :: rest) (hW : (rest.map fun v => v.category).sum ≤ 8) (hdg : decode cc pc = .ok (.invokespecial idx, 3)) :
    va_Run p l e R s m args below meth c H locs cells slots mc ms (F0 m pc ls st) rest (Qc (Value.ref b :: As).toArray) free := by
  obtain ⟨h1, h2, h3, h4, h5, h6⟩ := hl
  exact va_runI (n := np) hC hM ⟨callB_of np hC.2.2.2.2 (wm_good h2) rfl rfl rfl (hC.2.2.2.2 _ h3) (hC.2.2.2.2 _ h1) h4 hR.1, h6, hC.2.2.2.2 _ h5⟩ ⟨blindZ, preZ hK hH hZ⟩ rfl hn hsz hst (lv_room hW) hdg hR.2
theorem runINZ (hC : CallFix p m c cc nL s args TB own) (hK : mK D kA s) (hH : mS D kA M T A s.heap H locs) (hZ : mZ vb A s s.heap) (hM : Met l y (wm y bytes maxL none) (rmL d mc ms) (mPcZ D kA M T H.size vb (.ref b :: As)) Qc mc ms free) (hl : MLIN own idx y bytes maxL np) (hR : rOK R d maxL mc ms cells slots) (hn : As.length = np) (hsz : ls.size = nL) (hst : st = As.reverse ++ .ref b :: rest) (hW : (rest.map fun v => v.category).sum ≤ 8) (hdg : decode cc pc = .ok (.invokespecial idx, 3)) :
    va_Run p l e R s m args below meth c H locs cells slots mc ms (F0 m pc ls st) rest (Qc (Value.ref b :: As).toArray) free := by
  obtain ⟨h1, h2, h3, h4, h5, h6⟩ := hl
  exact va_runIN (n := np) hC hM ⟨va_cnB np hC.2.2.2.2 (wm_good h2) rfl rfl rfl (hK.2.1 _ h1) (hC.2.2.2.2 _ h3) h4 hR.1, h6, hC.2.2.2.2 _ h5⟩ ⟨blindZ, preZ hK hH hZ⟩ rfl hn hsz hst (lv_room hW) hdg hR.2
theorem getDay (hC : CallFix p m c cc nL s args TB own) (hZ : mZ vb A s s.heap) (hH : mS D kA M T A s.heap H locs) (hw : Cond.fieldLink own idx "BillRegistry$Verb" "DAY" "LBillRegistry$Verb;" ∈ TB) (hdg : decode cc pc = .ok (.getstatic idx, 3))
    (kk : W p l e R s m args below meth c H locs cells slots Q (F0 m (pc + 3) ls (.ref vb :: rest))) : W p l e R s m args below meth c H locs cells slots Q (F0 m pc ls rest) :=
  va_gets hC.1 hC.2.1 hZ hH.2.1 hC.2.2.2.1 (hC.2.2.2.2 _ hw) (fun _ h => h) hdg kk
end XZ
end
section
theorem dX8_acceptOne_0 : decode cX8_acceptOne 0 = .ok (.aload_n 0, 1) := by decide +kernel
theorem dX8_acceptOne_1 : decode cX8_acceptOne 1 = .ok (.iload_n 1, 1) := by decide +kernel
theorem dX8_acceptOne_2 : decode cX8_acceptOne 2 = .ok (.invokevirtual 68, 3) := by decide +kernel
theorem dX8_acceptOne_5 : decode cX8_acceptOne 5 = .ok (.ifCond .ne 6, 3) := by decide +kernel
theorem dX8_acceptOne_8 : decode cX8_acceptOne 8 = .ok (.bipush 30, 2) := by decide +kernel
theorem dX8_acceptOne_10 : decode cX8_acceptOne 10 = .ok (.ireturn, 1) := by decide +kernel
theorem dX8_findOne_0 : decode cX8_findOne 0 = .ok (.aload_n 0, 1) := by decide +kernel
theorem dX8_findOne_1 : decode cX8_findOne 1 = .ok (.iload_n 1, 1) := by decide +kernel
theorem dX8_findOne_2 : decode cX8_findOne 2 = .ok (.iload_n 2, 1) := by decide +kernel
theorem dX8_findOne_3 : decode cX8_findOne 3 = .ok (.iconst 0, 1) := by decide +kernel
theorem dX8_findOne_4 : decode cX8_findOne 4 = .ok (.invokevirtual 109, 3) := by decide +kernel
theorem dX8_findOne_7 : decode cX8_findOne 7 = .ok (.istore_n 3, 1) := by decide +kernel
theorem dX8_findOne_8 : decode cX8_findOne 8 = .ok (.iload_n 3, 1) := by decide +kernel
theorem dX8_findOne_9 : decode cX8_findOne 9 = .ok (.ifCond .ne 28, 3) := by decide +kernel
theorem dX8_findOne_37 : decode cX8_findOne 37 = .ok (.iload_n 3, 1) := by decide +kernel
theorem dX8_findOne_38 : decode cX8_findOne 38 = .ok (.ireturn, 1) := by decide +kernel
theorem dX8_giveDefence_0 : decode cX8_giveDefence 0 = .ok (.aload_n 0, 1) := by decide +kernel
theorem dX8_giveDefence_1 : decode cX8_giveDefence 1 = .ok (.iload_n 1, 1) := by decide +kernel
theorem dX8_giveDefence_2 : decode cX8_giveDefence 2 = .ok (.iload_n 2, 1) := by decide +kernel
theorem dX8_giveDefence_3 : decode cX8_giveDefence 3 = .ok (.invokevirtual 138, 3) := by decide +kernel
theorem dX8_giveDefence_6 : decode cX8_giveDefence 6 = .ok (.ifCond .ne 6, 3) := by decide +kernel
theorem dX8_giveDefence_9 : decode cX8_giveDefence 9 = .ok (.bipush 30, 2) := by decide +kernel
theorem dX8_giveDefence_11 : decode cX8_giveDefence 11 = .ok (.ireturn, 1) := by decide +kernel
theorem dX8_giveNotice_0 : decode cX8_giveNotice 0 = .ok (.iload_n 3, 1) := by decide +kernel
theorem dX8_giveNotice_1 : decode cX8_giveNotice 1 = .ok (.iconst 1, 1) := by decide +kernel
theorem dX8_giveNotice_2 : decode cX8_giveNotice 2 = .ok (.if_icmp .lt 26, 3) := by decide +kernel
theorem dX8_giveNotice_5 : decode cX8_giveNotice 5 = .ok (.aload_n 0, 1) := by decide +kernel
theorem dX8_giveNotice_6 : decode cX8_giveNotice 6 = .ok (.iload_n 1, 1) := by decide +kernel
theorem dX8_giveNotice_7 : decode cX8_giveNotice 7 = .ok (.iload_n 3, 1) := by decide +kernel
theorem dX8_giveNotice_8 : decode cX8_giveNotice 8 = .ok (.invokevirtual 138, 3) := by decide +kernel
theorem dX8_giveNotice_11 : decode cX8_giveNotice 11 = .ok (.ifCond .eq 17, 3) := by decide +kernel
theorem dX8_giveNotice_28 : decode cX8_giveNotice 28 = .ok (.bipush 30, 2) := by decide +kernel
theorem dX8_giveNotice_30 : decode cX8_giveNotice 30 = .ok (.ireturn, 1) := by decide +kernel
theorem dX8_goOn_0 : decode cX8_goOn 0 = .ok (.iload_n 1, 1) := by decide +kernel
theorem dX8_goOn_1 : decode cX8_goOn 1 = .ok (.iconst 1, 1) := by decide +kernel
theorem dX8_goOn_2 : decode cX8_goOn 2 = .ok (.if_icmp .lt 21, 3) := by decide +kernel
theorem dX8_goOn_5 : decode cX8_goOn 5 = .ok (.iload_n 1, 1) := by decide +kernel
theorem dX8_goOn_6 : decode cX8_goOn 6 = .ok (.bipush 99, 2) := by decide +kernel
theorem dX8_goOn_8 : decode cX8_goOn 8 = .ok (.if_icmp .gt 15, 3) := by decide +kernel
theorem dX8_goOn_11 : decode cX8_goOn 11 = .ok (.aload_n 0, 1) := by decide +kernel
theorem dX8_goOn_12 : decode cX8_goOn 12 = .ok (.getfield 29, 3) := by decide +kernel
theorem dX8_goOn_15 : decode cX8_goOn 15 = .ok (.iload_n 1, 1) := by decide +kernel
theorem dX8_goOn_16 : decode cX8_goOn 16 = .ok (.iadd, 1) := by decide +kernel
theorem dX8_goOn_17 : decode cX8_goOn 17 = .ok (.sipush 999, 3) := by decide +kernel
theorem dX8_goOn_20 : decode cX8_goOn 20 = .ok (.if_icmp .le 6, 3) := by decide +kernel
theorem dX8_goOn_23 : decode cX8_goOn 23 = .ok (.bipush 30, 2) := by decide +kernel
theorem dX8_goOn_25 : decode cX8_goOn 25 = .ok (.ireturn, 1) := by decide +kernel
theorem dX8_goOn_26 : decode cX8_goOn 26 = .ok (.aload_n 0, 1) := by decide +kernel
theorem dX8_goOn_27 : decode cX8_goOn 27 = .ok (.dup, 1) := by decide +kernel
theorem dX8_goOn_28 : decode cX8_goOn 28 = .ok (.getfield 29, 3) := by decide +kernel
theorem dX8_goOn_31 : decode cX8_goOn 31 = .ok (.iload_n 1, 1) := by decide +kernel
theorem dX8_goOn_32 : decode cX8_goOn 32 = .ok (.iadd, 1) := by decide +kernel
theorem dX8_goOn_33 : decode cX8_goOn 33 = .ok (.putfield 29, 3) := by decide +kernel
theorem dX8_goOn_36 : decode cX8_goOn 36 = .ok (.iconst 0, 1) := by decide +kernel
theorem dX8_goOn_37 : decode cX8_goOn 37 = .ok (.ireturn, 1) := by decide +kernel
theorem dX8_hasBill_0 : decode cX8_hasBill 0 = .ok (.iload_n 1, 1) := by decide +kernel
theorem dX8_hasBill_1 : decode cX8_hasBill 1 = .ok (.ifCond .lt 15, 3) := by decide +kernel
theorem dX8_hasBill_4 : decode cX8_hasBill 4 = .ok (.iload_n 1, 1) := by decide +kernel
theorem dX8_hasBill_5 : decode cX8_hasBill 5 = .ok (.aload_n 0, 1) := by decide +kernel
theorem dX8_hasBill_6 : decode cX8_hasBill 6 = .ok (.getfield 36, 3) := by decide +kernel
theorem dX8_hasBill_9 : decode cX8_hasBill 9 = .ok (.if_icmp .ge 7, 3) := by decide +kernel
theorem dX8_hasBill_12 : decode cX8_hasBill 12 = .ok (.iconst 1, 1) := by decide +kernel
theorem dX8_hasBill_13 : decode cX8_hasBill 13 = .ok (.goto 4, 3) := by decide +kernel
theorem dX8_hasBill_16 : decode cX8_hasBill 16 = .ok (.iconst 0, 1) := by decide +kernel
theorem dX8_hasBill_17 : decode cX8_hasBill 17 = .ok (.ireturn, 1) := by decide +kernel
theorem dX8_hasParty_0 : decode cX8_hasParty 0 = .ok (.aload_n 0, 1) := by decide +kernel
theorem dX8_hasParty_1 : decode cX8_hasParty 1 = .ok (.iload_n 1, 1) := by decide +kernel
theorem dX8_hasParty_2 : decode cX8_hasParty 2 = .ok (.invokevirtual 68, 3) := by decide +kernel
theorem dX8_hasParty_5 : decode cX8_hasParty 5 = .ok (.ifCond .eq 24, 3) := by decide +kernel
theorem dX8_hasParty_29 : decode cX8_hasParty 29 = .ok (.iconst 0, 1) := by decide +kernel
theorem dX8_hasParty_30 : decode cX8_hasParty 30 = .ok (.ireturn, 1) := by decide +kernel
theorem dX8_hasSigner_0 : decode cX8_hasSigner 0 = .ok (.aload_n 0, 1) := by decide +kernel
theorem dX8_hasSigner_1 : decode cX8_hasSigner 1 = .ok (.iload_n 1, 1) := by decide +kernel
theorem dX8_hasSigner_2 : decode cX8_hasSigner 2 = .ok (.iload_n 2, 1) := by decide +kernel
theorem dX8_hasSigner_3 : decode cX8_hasSigner 3 = .ok (.invokevirtual 76, 3) := by decide +kernel
theorem dX8_hasSigner_6 : decode cX8_hasSigner 6 = .ok (.ifCond .eq 20, 3) := by decide +kernel
theorem dX8_hasSigner_26 : decode cX8_hasSigner 26 = .ok (.iconst 0, 1) := by decide +kernel
theorem dX8_hasSigner_27 : decode cX8_hasSigner 27 = .ok (.ireturn, 1) := by decide +kernel
theorem dX8_note_0 : decode cX8_note 0 = .ok (.aload_n 0, 1) := by decide +kernel
theorem dX8_note_1 : decode cX8_note 1 = .ok (.iload_n 1, 1) := by decide +kernel
theorem dX8_note_2 : decode cX8_note 2 = .ok (.putfield 45, 3) := by decide +kernel
theorem dX8_note_5 : decode cX8_note 5 = .ok (.iload_n 1, 1) := by decide +kernel
theorem dX8_note_6 : decode cX8_note 6 = .ok (.ifCond .eq 13, 3) := by decide +kernel
theorem dX8_note_9 : decode cX8_note 9 = .ok (.aload_n 0, 1) := by decide +kernel
theorem dX8_note_10 : decode cX8_note 10 = .ok (.dup, 1) := by decide +kernel
theorem dX8_note_11 : decode cX8_note 11 = .ok (.getfield 42, 3) := by decide +kernel
theorem dX8_note_14 : decode cX8_note 14 = .ok (.iconst 1, 1) := by decide +kernel
theorem dX8_note_15 : decode cX8_note 15 = .ok (.iadd, 1) := by decide +kernel
theorem dX8_note_16 : decode cX8_note 16 = .ok (.putfield 42, 3) := by decide +kernel
theorem dX8_note_19 : decode cX8_note 19 = .ok (.iload_n 1, 1) := by decide +kernel
theorem dX8_note_20 : decode cX8_note 20 = .ok (.ireturn, 1) := by decide +kernel
theorem dX8_passForged_0 : decode cX8_passForged 0 = .ok (.aload_n 0, 1) := by decide +kernel
theorem dX8_passForged_1 : decode cX8_passForged 1 = .ok (.iload_n 1, 1) := by decide +kernel
theorem dX8_passForged_2 : decode cX8_passForged 2 = .ok (.invokevirtual 68, 3) := by decide +kernel
theorem dX8_passForged_5 : decode cX8_passForged 5 = .ok (.ifCond .eq 23, 3) := by decide +kernel
theorem dX8_passForged_28 : decode cX8_passForged 28 = .ok (.bipush 30, 2) := by decide +kernel
theorem dX8_passForged_30 : decode cX8_passForged 30 = .ok (.ireturn, 1) := by decide +kernel
theorem dX8_passOn_0 : decode cX8_passOn 0 = .ok (.iload_n 2, 1) := by decide +kernel
theorem dX8_passOn_1 : decode cX8_passOn 1 = .ok (.ifCond .lt 18, 3) := by decide +kernel
theorem dX8_passOn_4 : decode cX8_passOn 4 = .ok (.iload_n 2, 1) := by decide +kernel
theorem dX8_passOn_5 : decode cX8_passOn 5 = .ok (.iconst 3, 1) := by decide +kernel
theorem dX8_passOn_6 : decode cX8_passOn 6 = .ok (.if_icmp .gt 13, 3) := by decide +kernel
theorem dX8_passOn_9 : decode cX8_passOn 9 = .ok (.iload 6, 2) := by decide +kernel
theorem dX8_passOn_11 : decode cX8_passOn 11 = .ok (.ifCond .eq 11, 3) := by decide +kernel
theorem dX8_passOn_14 : decode cX8_passOn 14 = .ok (.iload_n 2, 1) := by decide +kernel
theorem dX8_passOn_15 : decode cX8_passOn 15 = .ok (.iconst 3, 1) := by decide +kernel
theorem dX8_passOn_16 : decode cX8_passOn 16 = .ok (.if_icmp .ne 6, 3) := by decide +kernel
theorem dX8_passOn_19 : decode cX8_passOn 19 = .ok (.bipush 30, 2) := by decide +kernel
theorem dX8_passOn_21 : decode cX8_passOn 21 = .ok (.ireturn, 1) := by decide +kernel
theorem dX8_passOn_22 : decode cX8_passOn 22 = .ok (.aload_n 0, 1) := by decide +kernel
theorem dX8_passOn_23 : decode cX8_passOn 23 = .ok (.iload_n 1, 1) := by decide +kernel
theorem dX8_passOn_24 : decode cX8_passOn 24 = .ok (.iload_n 3, 1) := by decide +kernel
theorem dX8_passOn_25 : decode cX8_passOn 25 = .ok (.iload 4, 2) := by decide +kernel
theorem dX8_passOn_27 : decode cX8_passOn 27 = .ok (.invokevirtual 109, 3) := by decide +kernel
theorem dX8_passOn_30 : decode cX8_passOn 30 = .ok (.istore 7, 2) := by decide +kernel
theorem dX8_passOn_32 : decode cX8_passOn 32 = .ok (.iload 7, 2) := by decide +kernel
theorem dX8_passOn_34 : decode cX8_passOn 34 = .ok (.ifCond .ne 66, 3) := by decide +kernel
theorem dX8_passOn_100 : decode cX8_passOn 100 = .ok (.iload 7, 2) := by decide +kernel
theorem dX8_passOn_102 : decode cX8_passOn 102 = .ok (.ireturn, 1) := by decide +kernel
theorem dX8_payOne_0 : decode cX8_payOne 0 = .ok (.aload_n 0, 1) := by decide +kernel
theorem dX8_payOne_1 : decode cX8_payOne 1 = .ok (.iload_n 1, 1) := by decide +kernel
theorem dX8_payOne_2 : decode cX8_payOne 2 = .ok (.iload_n 2, 1) := by decide +kernel
theorem dX8_payOne_3 : decode cX8_payOne 3 = .ok (.invokevirtual 76, 3) := by decide +kernel
theorem dX8_payOne_6 : decode cX8_payOne 6 = .ok (.ifCond .ne 6, 3) := by decide +kernel
theorem dX8_payOne_9 : decode cX8_payOne 9 = .ok (.bipush 30, 2) := by decide +kernel
theorem dX8_payOne_11 : decode cX8_payOne 11 = .ok (.ireturn, 1) := by decide +kernel
theorem dX8_presentOne_0 : decode cX8_presentOne 0 = .ok (.aload_n 0, 1) := by decide +kernel
theorem dX8_presentOne_1 : decode cX8_presentOne 1 = .ok (.iload_n 1, 1) := by decide +kernel
theorem dX8_presentOne_2 : decode cX8_presentOne 2 = .ok (.invokevirtual 68, 3) := by decide +kernel
theorem dX8_presentOne_5 : decode cX8_presentOne 5 = .ok (.ifCond .ne 6, 3) := by decide +kernel
theorem dX8_presentOne_8 : decode cX8_presentOne 8 = .ok (.bipush 30, 2) := by decide +kernel
theorem dX8_presentOne_10 : decode cX8_presentOne 10 = .ok (.ireturn, 1) := by decide +kernel
theorem dX8_releaseOne_0 : decode cX8_releaseOne 0 = .ok (.aload_n 0, 1) := by decide +kernel
theorem dX8_releaseOne_1 : decode cX8_releaseOne 1 = .ok (.iload_n 1, 1) := by decide +kernel
theorem dX8_releaseOne_2 : decode cX8_releaseOne 2 = .ok (.iload_n 2, 1) := by decide +kernel
theorem dX8_releaseOne_3 : decode cX8_releaseOne 3 = .ok (.invokevirtual 138, 3) := by decide +kernel
theorem dX8_releaseOne_6 : decode cX8_releaseOne 6 = .ok (.ifCond .ne 6, 3) := by decide +kernel
theorem dX8_releaseOne_9 : decode cX8_releaseOne 9 = .ok (.bipush 30, 2) := by decide +kernel
theorem dX8_releaseOne_11 : decode cX8_releaseOne 11 = .ok (.ireturn, 1) := by decide +kernel
theorem dX8_setCash_0 : decode cX8_setCash 0 = .ok (.iload_n 1, 1) := by decide +kernel
theorem dX8_setCash_1 : decode cX8_setCash 1 = .ok (.invokestatic 94, 3) := by decide +kernel
theorem dX8_setCash_4 : decode cX8_setCash 4 = .ok (.ifCond .eq 14, 3) := by decide +kernel
theorem dX8_setCash_7 : decode cX8_setCash 7 = .ok (.iload_n 2, 1) := by decide +kernel
theorem dX8_setCash_8 : decode cX8_setCash 8 = .ok (.ifCond .lt 10, 3) := by decide +kernel
theorem dX8_setCash_11 : decode cX8_setCash 11 = .ok (.iload_n 2, 1) := by decide +kernel
theorem dX8_setCash_12 : decode cX8_setCash 12 = .ok (.sipush 9999, 3) := by decide +kernel
theorem dX8_setCash_15 : decode cX8_setCash 15 = .ok (.if_icmp .le 6, 3) := by decide +kernel
theorem dX8_setCash_18 : decode cX8_setCash 18 = .ok (.bipush 30, 2) := by decide +kernel
theorem dX8_setCash_20 : decode cX8_setCash 20 = .ok (.ireturn, 1) := by decide +kernel
theorem dX8_setCash_21 : decode cX8_setCash 21 = .ok (.aload_n 0, 1) := by decide +kernel
theorem dX8_setCash_22 : decode cX8_setCash 22 = .ok (.getfield 9, 3) := by decide +kernel
theorem dX8_setCash_25 : decode cX8_setCash 25 = .ok (.iload_n 1, 1) := by decide +kernel
theorem dX8_setCash_26 : decode cX8_setCash 26 = .ok (.iload_n 2, 1) := by decide +kernel
theorem dX8_setCash_27 : decode cX8_setCash 27 = .ok (.iastore, 1) := by decide +kernel
theorem dX8_setCash_28 : decode cX8_setCash 28 = .ok (.iconst 0, 1) := by decide +kernel
theorem dX8_setCash_29 : decode cX8_setCash 29 = .ok (.ireturn, 1) := by decide +kernel
theorem dX8_setGrace_0 : decode cX8_setGrace 0 = .ok (.iload_n 1, 1) := by decide +kernel
theorem dX8_setGrace_1 : decode cX8_setGrace 1 = .ok (.iconst 1, 1) := by decide +kernel
theorem dX8_setGrace_2 : decode cX8_setGrace 2 = .ok (.if_icmp .lt 9, 3) := by decide +kernel
theorem dX8_setGrace_5 : decode cX8_setGrace 5 = .ok (.iload_n 1, 1) := by decide +kernel
theorem dX8_setGrace_6 : decode cX8_setGrace 6 = .ok (.bipush 9, 2) := by decide +kernel
theorem dX8_setGrace_8 : decode cX8_setGrace 8 = .ok (.if_icmp .le 6, 3) := by decide +kernel
theorem dX8_setGrace_11 : decode cX8_setGrace 11 = .ok (.bipush 30, 2) := by decide +kernel
theorem dX8_setGrace_13 : decode cX8_setGrace 13 = .ok (.ireturn, 1) := by decide +kernel
theorem dX8_setGrace_14 : decode cX8_setGrace 14 = .ok (.aload_n 0, 1) := by decide +kernel
theorem dX8_setGrace_15 : decode cX8_setGrace 15 = .ok (.iload_n 1, 1) := by decide +kernel
theorem dX8_setGrace_16 : decode cX8_setGrace 16 = .ok (.putfield 33, 3) := by decide +kernel
theorem dX8_setGrace_19 : decode cX8_setGrace 19 = .ok (.iconst 0, 1) := by decide +kernel
theorem dX8_setGrace_20 : decode cX8_setGrace 20 = .ok (.ireturn, 1) := by decide +kernel
theorem dX8_whyNoStep_0 : decode cX8_whyNoStep 0 = .ok (.aload_n 0, 1) := by decide +kernel
theorem dX8_whyNoStep_1 : decode cX8_whyNoStep 1 = .ok (.iload_n 1, 1) := by decide +kernel
theorem dX8_whyNoStep_2 : decode cX8_whyNoStep 2 = .ok (.invokevirtual 68, 3) := by decide +kernel
theorem dX8_whyNoStep_5 : decode cX8_whyNoStep 5 = .ok (.ifCond .eq 21, 3) := by decide +kernel
theorem dX8_whyNoStep_26 : decode cX8_whyNoStep 26 = .ok (.bipush 30, 2) := by decide +kernel
theorem dX8_whyNoStep_28 : decode cX8_whyNoStep 28 = .ok (.ireturn, 1) := by decide +kernel
theorem dX9_isPerson_0 : decode cX9_isPerson 0 = .ok (.iload_n 0, 1) := by decide +kernel
theorem dX9_isPerson_1 : decode cX9_isPerson 1 = .ok (.ifCond .lt 13, 3) := by decide +kernel
theorem dX9_isPerson_4 : decode cX9_isPerson 4 = .ok (.iload_n 0, 1) := by decide +kernel
theorem dX9_isPerson_5 : decode cX9_isPerson 5 = .ok (.bipush 8, 2) := by decide +kernel
theorem dX9_isPerson_7 : decode cX9_isPerson 7 = .ok (.if_icmp .ge 7, 3) := by decide +kernel
theorem dX9_isPerson_10 : decode cX9_isPerson 10 = .ok (.iconst 1, 1) := by decide +kernel
theorem dX9_isPerson_11 : decode cX9_isPerson 11 = .ok (.goto 4, 3) := by decide +kernel
theorem dX9_isPerson_14 : decode cX9_isPerson 14 = .ok (.iconst 0, 1) := by decide +kernel
theorem dX9_isPerson_15 : decode cX9_isPerson 15 = .ok (.ireturn, 1) := by decide +kernel
theorem dX9_refusalOf_0 : decode cX9_refusalOf 0 = .ok (.iload_n 0, 1) := by decide +kernel
theorem dX9_refusalOf_1 : decode cX9_refusalOf 1 = .ok (.iconst 1, 1) := by decide +kernel
theorem dX9_refusalOf_2 : decode cX9_refusalOf 2 = .ok (.if_icmp .ne 7, 3) := by decide +kernel
theorem dX9_refusalOf_5 : decode cX9_refusalOf 5 = .ok (.iconst 0, 1) := by decide +kernel
theorem dX9_refusalOf_6 : decode cX9_refusalOf 6 = .ok (.goto 4, 3) := by decide +kernel
theorem dX9_refusalOf_9 : decode cX9_refusalOf 9 = .ok (.iload_n 0, 1) := by decide +kernel
theorem dX9_refusalOf_10 : decode cX9_refusalOf 10 = .ok (.ireturn, 1) := by decide +kernel
end
section
theorem flX8_29 : FL RX8 29 6 0 .int false := ⟨RX8, TX8, 11, tyX8, rfl, by decide, TB_t 246 (by decide +kernel) rfl, inX8, tyX8_ok, nmX8, rfl, rfl⟩
theorem flX8_33 : FL RX8 33 6 1 .int false := ⟨RX8, TX8, 11, tyX8, rfl, by decide, TB_t 248 (by decide +kernel) rfl, inX8, tyX8_ok, nmX8, rfl, rfl⟩
theorem flX8_36 : FL RX8 36 6 2 .int false := ⟨RX8, TX8, 11, tyX8, rfl, by decide, TB_t 250 (by decide +kernel) rfl, inX8, tyX8_ok, nmX8, rfl, rfl⟩
theorem flX8_42 : FL RX8 42 6 4 .int false := ⟨RX8, TX8, 11, tyX8, rfl, by decide, TB_t 254 (by decide +kernel) rfl, inX8, tyX8_ok, nmX8, rfl, rfl⟩
theorem flX8_45 : FL RX8 45 6 5 .int false := ⟨RX8, TX8, 11, tyX8, rfl, by decide, TB_t 256 (by decide +kernel) rfl, inX8, tyX8_ok, nmX8, rfl, rfl⟩
theorem flX8_9 : FL RX8 9 6 8 (.array .int) true := ⟨RX8, TX8, 11, tyX8, rfl, by decide, TB_t 262 (by decide +kernel) rfl, inX8, tyX8_ok, nmX8, rfl, rfl⟩
theorem mlX8_109 : MLV RX8 109 yX8_whyNoStep cX8_whyNoStep 4 (some .int) 3 := ⟨TB_t 575 (by decide +kernel) rfl, TB_t 578 (by decide +kernel) rfl, TB_t 2 (by decide +kernel) rfl, ⟨by decide, by decide, by decide +kernel⟩, TB_t 577 (by decide +kernel) rfl, TB_s 10 (by decide +kernel) rfl⟩
theorem mlX8_138 : MLV RX8 138 yX8_hasSigner cX8_hasSigner 3 (some .boolean) 2 := ⟨TB_t 631 (by decide +kernel) rfl, TB_t 634 (by decide +kernel) rfl, TB_t 2 (by decide +kernel) rfl, ⟨by decide, by decide, by decide +kernel⟩, TB_t 632 (by decide +kernel) rfl, TB_t 633 (by decide +kernel) rfl⟩
theorem mlX8_68 : MLV RX8 68 yX8_hasBill cX8_hasBill 2 (some .boolean) 1 := ⟨TB_t 567 (by decide +kernel) rfl, TB_t 570 (by decide +kernel) rfl, TB_t 2 (by decide +kernel) rfl, ⟨by decide, by decide, by decide +kernel⟩, TB_t 568 (by decide +kernel) rfl, TB_t 569 (by decide +kernel) rfl⟩
theorem mlX8_76 : MLV RX8 76 yX8_hasParty cX8_hasParty 3 (some .boolean) 2 := ⟨TB_t 635 (by decide +kernel) rfl, TB_t 638 (by decide +kernel) rfl, TB_t 2 (by decide +kernel) rfl, ⟨by decide, by decide, by decide +kernel⟩, TB_t 636 (by decide +kernel) rfl, TB_t 637 (by decide +kernel) rfl⟩
theorem mlX8_94 : MLSN RX8 94 yX9_isPerson cX9_isPerson 1 (some .boolean) 1 := ⟨by decide, TB_t 532 (by decide +kernel) rfl, TB_t 1 (by decide +kernel) rfl, ⟨by decide, by decide, by decide +kernel⟩, TB_t 531 (by decide +kernel) rfl⟩
end
section
set_option maxHeartbeats 4000000 in
set_option maxRecDepth 100000 in
theorem c_X9_isPerson {l : Launch} {D : va_G} {kA : Nat → ClassId} {M : mM} {T : mT} {sz : Nat} {n : Int32}  : mCi l yX9_isPerson cX9_isPerson 1 (some .boolean) 0 0 0 D kA M T sz [.int n] (fun r u => (((0 ≤ n.toInt ∧ n.toInt ≤ 7) ∧ r = 1) ∨ ((¬ (0 ≤ n.toInt ∧ n.toInt ≤ 7)) ∧ r = 0)) ∧ u.2 = T ∧ u.1 = M) := by
  unfold mCi
  refine start_W (by decide) (Nat.le_of_ble_eq_true rfl) ?_
  intro p e s m below meth c ls hC hr hlk hnm hK hH hsz hl
  have hx := hC.1
  have hb := hC.2.1
  have hl : lv_has ls 1 [(0, .int n)] := hl
  refine lv_iload_n hx hb dX9_isPerson_0 rfl (lv_at hl 0 rfl) ?_
  refine jif_lt (tgt := 14) hx hb dX9_isPerson_1 (by decide) (fun c1 => ?_) (fun c1 => ?_)
  · skip
    have c1 : n.toInt < 0 := c1
    refine lv_iconst (v := 0) hx hb dX9_isPerson_14 (by decide) ?_
    exact ret_z hC hr hlk hK hH (by first | exact Or.inl rfl | exact Or.inr rfl | assumption) (⟨Or.inr (⟨by omega, rfl⟩), rfl, rfl⟩) (Nat.le_of_ble_eq_true rfl) (Nat.le_of_ble_eq_true rfl) dX9_isPerson_15
  · skip
    have c1 : 0 ≤ n.toInt := c1
    refine lv_iload_n hx hb dX9_isPerson_4 rfl (lv_at hl 0 rfl) ?_
    refine lv_bipush (v := 8) hx hb dX9_isPerson_5 (by decide) ?_
    refine jic_ge (tgt := 14) hx hb dX9_isPerson_7 (by decide) (fun c2 => ?_) (fun c2 => ?_)
    · skip
      have c2 : 8 ≤ n.toInt := c2
      refine lv_iconst (v := 0) hx hb dX9_isPerson_14 (by decide) ?_
      exact ret_z hC hr hlk hK hH (by first | exact Or.inl rfl | exact Or.inr rfl | assumption) (⟨Or.inr (⟨by omega, rfl⟩), rfl, rfl⟩) (Nat.le_of_ble_eq_true rfl) (Nat.le_of_ble_eq_true rfl) dX9_isPerson_15
    · skip
      have c2 : n.toInt < 8 := c2
      refine lv_iconst (v := 1) hx hb dX9_isPerson_10 (by decide) ?_
      refine lv_goto (tgt := 15) hx hb dX9_isPerson_11 (by decide) ?_
      exact ret_z hC hr hlk hK hH (by first | exact Or.inl rfl | exact Or.inr rfl | assumption) (⟨Or.inl (⟨by omega, rfl⟩), rfl, rfl⟩) (Nat.le_of_ble_eq_true rfl) (Nat.le_of_ble_eq_true rfl) dX9_isPerson_15
set_option maxHeartbeats 4000000 in
set_option maxRecDepth 100000 in
theorem c_X9_refusalOf {l : Launch} {D : va_G} {kA : Nat → ClassId} {M : mM} {T : mT} {sz : Nat} {n : Int32}  : mCi l yX9_refusalOf cX9_refusalOf 1 (some .int) 0 0 0 D kA M T sz [.int n] (fun r u => ((n.toInt = 1 ∧ r = 0) ∨ (n.toInt ≠ 1 ∧ r = n)) ∧ u.2 = T ∧ u.1 = M) := by
  unfold mCi
  refine start_W (by decide) (Nat.le_of_ble_eq_true rfl) ?_
  intro p e s m below meth c ls hC hr hlk hnm hK hH hsz hl
  have hx := hC.1
  have hb := hC.2.1
  have hl : lv_has ls 1 [(0, .int n)] := hl
  refine lv_iload_n hx hb dX9_refusalOf_0 rfl (lv_at hl 0 rfl) ?_
  refine lv_iconst (v := 1) hx hb dX9_refusalOf_1 (by decide) ?_
  refine jic_ne (tgt := 9) hx hb dX9_refusalOf_2 (by decide) (fun c1 => ?_) (fun c1 => ?_)
  · skip
    have c1 : n.toInt ≠ 1 := c1
    refine lv_iload_n hx hb dX9_refusalOf_9 rfl (lv_at hl 0 rfl) ?_
    exact ret_i hC hr hlk hK hH (⟨Or.inr (⟨by omega, rfl⟩), rfl, rfl⟩) (Nat.le_of_ble_eq_true rfl) (Nat.le_of_ble_eq_true rfl) dX9_refusalOf_10
  · skip
    have c1 : n.toInt = 1 := c1
    refine lv_iconst (v := 0) hx hb dX9_refusalOf_5 (by decide) ?_
    refine lv_goto (tgt := 10) hx hb dX9_refusalOf_6 (by decide) ?_
    exact ret_i hC hr hlk hK hH (⟨Or.inl (⟨by omega, rfl⟩), rfl, rfl⟩) (Nat.le_of_ble_eq_true rfl) (Nat.le_of_ble_eq_true rfl) dX9_refusalOf_10
set_option maxHeartbeats 4000000 in
set_option maxRecDepth 100000 in
theorem c_X8_note {l : Launch} {D : va_G} {kA : Nat → ClassId} {M : mM} {T : mT} {sz : Nat} {w cs bs tp : Nat} {td gd bc py rf lt tl fp : Int32} {n : Int32} (hc_w : M w = some (.inr (6, [.int td, .int gd, .int bc, .int py, .int rf, .int lt, .int tl, .int fp, .ref cs, .ref bs, .ref tp]))) : mCi l yX8_note cX8_note 2 (some .int) 0 0 0 D kA M T sz [.ref w, .int n] (fun r u => ((n.toInt ≠ 0 ∧ r = n ∧ u.1 w = some (.inr (6, [.int td, .int gd, .int bc, .int py, .int (rf + 1), .int n, .int tl, .int fp, .ref cs, .ref bs, .ref tp]))) ∨ (n.toInt = 0 ∧ r = n ∧ u.1 w = some (.inr (6, [.int td, .int gd, .int bc, .int py, .int rf, .int n, .int tl, .int fp, .ref cs, .ref bs, .ref tp])))) ∧ u.2 = T ∧ (∀ q, q ≠ w → u.1 q = M q)) := by
  unfold mCi
  refine start_W (by decide) (Nat.le_of_ble_eq_true rfl) ?_
  intro p e s m below meth c ls hC hr hlk hnm hK hH hsz hl
  have hx := hC.1
  have hb := hC.2.1
  have hl : lv_has ls 2 [(0, .ref w), (1, .int n)] := hl
  have hF : ∀ q, q ≠ w → M q = M q := fun q _ => rfl
  refine lv_aload_n hx hb dX8_note_0 rfl (lv_at hl 0 rfl) ?_
  refine lv_iload_n hx hb dX8_note_1 rfl (lv_at hl 1 rfl) ?_
  refine yp (v := .int n) hC hK hH flX8_45 hc_w rfl rfl (Nat.le_of_ble_eq_true rfl) dX8_note_2 (fun H locs M1 hc_w hfr hH => ?_)
  have hc_w : M1 w = some (.inr (6, [.int td, .int gd, .int bc, .int py, .int rf, .int n, .int tl, .int fp, .ref cs, .ref bs, .ref tp])) := hc_w
  have hF : ∀ q, q ≠ w → M1 q = M q := fun q h0 => (hfr q h0).trans (hF q h0)
  refine lv_iload_n hx hb dX8_note_5 rfl (lv_at hl 1 rfl) ?_
  refine jif_eq (tgt := 19) hx hb dX8_note_6 (by decide) (fun c2 => ?_) (fun c2 => ?_)
  · skip
    have c2 : n.toInt = 0 := c2
    refine lv_iload_n hx hb dX8_note_19 rfl (lv_at hl 1 rfl) ?_
    exact ret_i hC hr hlk hK hH (⟨Or.inr (⟨by omega, rfl, hc_w⟩), rfl, hF⟩) (Nat.le_of_ble_eq_true rfl) (Nat.le_of_ble_eq_true rfl) dX8_note_20
  · skip
    have c2 : n.toInt ≠ 0 := c2
    refine lv_aload_n hx hb dX8_note_9 rfl (lv_at hl 0 rfl) ?_
    refine lv_dup hx hb dX8_note_10 rfl ?_
    refine xg hC hK hH flX8_42 hc_w rfl dX8_note_11 ?_
    refine lv_iconst (v := 1) hx hb dX8_note_14 (by decide) ?_
    refine lv_iadd hx hb dX8_note_15 ?_
    refine lv_topi (fun z3 e_z3 => ?_)
    have rg_rf := iRg rf
    rcases (show rf.toInt ≤ 2147483646 ∨ 2147483646 < rf.toInt by omega) with c4 | c4
    · skip
      have h_z3 : z3.toInt = rf.toInt + 1 := by rw [e_z3, iAdd (by have := iRg rf; have : (1 : Int32).toInt = 1 := rfl; omega) (by have := iRg rf; have : (1 : Int32).toInt = 1 := rfl; omega)]; rfl
      refine yp (v := .int z3) hC hK hH flX8_42 hc_w rfl rfl (Nat.le_of_ble_eq_true rfl) dX8_note_16 (fun H locs M5 hc_w hfr hH => ?_)
      have hc_w : M5 w = some (.inr (6, [.int td, .int gd, .int bc, .int py, .int z3, .int n, .int tl, .int fp, .ref cs, .ref bs, .ref tp])) := hc_w
      have hF : ∀ q, q ≠ w → M5 q = M q := fun q h0 => (hfr q h0).trans (hF q h0)
      refine lv_iload_n hx hb dX8_note_19 rfl (lv_at hl 1 rfl) ?_
      subst e_z3
      exact ret_i hC hr hlk hK hH (⟨Or.inl (⟨by omega, rfl, hc_w⟩), rfl, hF⟩) (Nat.le_of_ble_eq_true rfl) (Nat.le_of_ble_eq_true rfl) dX8_note_20
    · skip
      have h_z3 : z3.toInt = rf.toInt + 1 - 4294967296 := by rw [e_z3, iAddW (by have := iRg rf; have : (1 : Int32).toInt = 1 := rfl; omega)]; rfl
      refine yp (v := .int z3) hC hK hH flX8_42 hc_w rfl rfl (Nat.le_of_ble_eq_true rfl) dX8_note_16 (fun H locs M6 hc_w hfr hH => ?_)
      have hc_w : M6 w = some (.inr (6, [.int td, .int gd, .int bc, .int py, .int z3, .int n, .int tl, .int fp, .ref cs, .ref bs, .ref tp])) := hc_w
      have hF : ∀ q, q ≠ w → M6 q = M q := fun q h0 => (hfr q h0).trans (hF q h0)
      refine lv_iload_n hx hb dX8_note_19 rfl (lv_at hl 1 rfl) ?_
      subst e_z3
      exact ret_i hC hr hlk hK hH (⟨Or.inl (⟨by omega, rfl, hc_w⟩), rfl, hF⟩) (Nat.le_of_ble_eq_true rfl) (Nat.le_of_ble_eq_true rfl) dX8_note_20
set_option maxHeartbeats 4000000 in
set_option maxRecDepth 100000 in
theorem c_X8_hasBill {l : Launch} {D : va_G} {kA : Nat → ClassId} {M : mM} {T : mT} {sz : Nat} {w cs bs tp : Nat} {td gd bc py rf lt tl fp : Int32} {b : Int32} (hc_w : M w = some (.inr (6, [.int td, .int gd, .int bc, .int py, .int rf, .int lt, .int tl, .int fp, .ref cs, .ref bs, .ref tp]))) : mCi l yX8_hasBill cX8_hasBill 2 (some .boolean) 0 0 0 D kA M T sz [.ref w, .int b] (fun r u => (((0 ≤ b.toInt ∧ b.toInt < bc.toInt) ∧ r = 1) ∨ ((¬ (0 ≤ b.toInt ∧ b.toInt < bc.toInt)) ∧ r = 0)) ∧ u.2 = T ∧ u.1 = M) := by
  unfold mCi
  refine start_W (by decide) (Nat.le_of_ble_eq_true rfl) ?_
  intro p e s m below meth c ls hC hr hlk hnm hK hH hsz hl
  have hx := hC.1
  have hb := hC.2.1
  have hl : lv_has ls 2 [(0, .ref w), (1, .int b)] := hl
  refine lv_iload_n hx hb dX8_hasBill_0 rfl (lv_at hl 1 rfl) ?_
  refine jif_lt (tgt := 16) hx hb dX8_hasBill_1 (by decide) (fun c1 => ?_) (fun c1 => ?_)
  · skip
    have c1 : b.toInt < 0 := c1
    refine lv_iconst (v := 0) hx hb dX8_hasBill_16 (by decide) ?_
    exact ret_z hC hr hlk hK hH (by first | exact Or.inl rfl | exact Or.inr rfl | assumption) (⟨Or.inr (⟨by omega, rfl⟩), rfl, rfl⟩) (Nat.le_of_ble_eq_true rfl) (Nat.le_of_ble_eq_true rfl) dX8_hasBill_17
  · skip
    have c1 : 0 ≤ b.toInt := c1
    refine lv_iload_n hx hb dX8_hasBill_4 rfl (lv_at hl 1 rfl) ?_
    refine lv_aload_n hx hb dX8_hasBill_5 rfl (lv_at hl 0 rfl) ?_
    refine xg hC hK hH flX8_36 hc_w rfl dX8_hasBill_6 ?_
    refine jic_ge (tgt := 16) hx hb dX8_hasBill_9 (by decide) (fun c2 => ?_) (fun c2 => ?_)
    · skip
      have c2 : bc.toInt ≤ b.toInt := c2
      refine lv_iconst (v := 0) hx hb dX8_hasBill_16 (by decide) ?_
      exact ret_z hC hr hlk hK hH (by first | exact Or.inl rfl | exact Or.inr rfl | assumption) (⟨Or.inr (⟨by omega, rfl⟩), rfl, rfl⟩) (Nat.le_of_ble_eq_true rfl) (Nat.le_of_ble_eq_true rfl) dX8_hasBill_17
    · skip
      have c2 : b.toInt < bc.toInt := c2
      refine lv_iconst (v := 1) hx hb dX8_hasBill_12 (by decide) ?_
      refine lv_goto (tgt := 17) hx hb dX8_hasBill_13 (by decide) ?_
      exact ret_z hC hr hlk hK hH (by first | exact Or.inl rfl | exact Or.inr rfl | assumption) (⟨Or.inl (⟨by omega, rfl⟩), rfl, rfl⟩) (Nat.le_of_ble_eq_true rfl) (Nat.le_of_ble_eq_true rfl) dX8_hasBill_17
set_option maxHeartbeats 4000000 in
set_option maxRecDepth 100000 in
theorem c_X8_hasParty {l : Launch} {D : va_G} {kA : Nat → ClassId} {M : mM} {T : mT} {sz : Nat} {w cs bs tp : Nat} {td gd py rf lt tl fp : Int32} {b pt : Int32} (hc_w : M w = some (.inr (6, [.int td, .int gd, .int 0, .int py, .int rf, .int lt, .int tl, .int fp, .ref cs, .ref bs, .ref tp]))) : mCi l yX8_hasParty cX8_hasParty 3 (some .boolean) 1 0 0 D kA M T sz [.ref w, .int b, .int pt] (fun r u => (r = 0) ∧ u.2 = T ∧ u.1 = M) := by
  unfold mCi
  refine start_W (by decide) (Nat.le_of_ble_eq_true rfl) ?_
  intro p e s m below meth c ls hC hr hlk hnm hK hH hsz hl
  have hx := hC.1
  have hb := hC.2.1
  have hl : lv_has ls 3 [(0, .ref w), (1, .int b), (2, .int pt)] := hl
  refine lv_aload_n hx hb dX8_hasParty_0 rfl (lv_at hl 0 rfl) ?_
  refine lv_iload_n hx hb dX8_hasParty_1 rfl (lv_at hl 1 rfl) ?_
  refine goI hK hH (runV (As := [.int b]) (rest := []) hC hK hH (c_X8_hasBill hc_w) mlX8_68 (rcvM hK hH hc_w rfl) ⟨⟨Nat.le_of_ble_eq_true rfl, Nat.le_of_ble_eq_true rfl⟩, Nat.le_of_ble_eq_true rfl, Nat.le_of_ble_eq_true rfl⟩ rfl hl.1 rfl (Nat.le_of_ble_eq_true rfl) dX8_hasParty_2) (fun r3 M1 T2 H locs hP hz hH => ?_)
  try dsimp only at hP
  obtain ⟨(⟨c4, rfl⟩ | ⟨c5, rfl⟩), eT, eM⟩ := hP
  · skip
    have eT := eT.symm; subst eT
    have eM := eM.symm; subst eM
    have c4 : 0 ≤ b.toInt ∧ b.toInt < (0 : Int) := c4
    exact absurd c4 (by omega)
  · skip
    have eT := eT.symm; subst eT
    have eM := eM.symm; subst eM
    have c5 : ¬ (0 ≤ b.toInt ∧ b.toInt < (0 : Int)) := c5
    refine jif_eq (tgt := 29) hx hb dX8_hasParty_5 (by decide) (fun c6 => ?_) (fun c6 => absurd c6 (by decide))
    refine lv_iconst (v := 0) hx hb dX8_hasParty_29 (by decide) ?_
    exact ret_z hC hr hlk hK hH (by first | exact Or.inl rfl | exact Or.inr rfl | assumption) (⟨rfl, rfl, rfl⟩) (Nat.le_of_ble_eq_true rfl) (Nat.le_of_ble_eq_true rfl) dX8_hasParty_30
set_option maxHeartbeats 4000000 in
set_option maxRecDepth 100000 in
theorem c_X8_hasSigner {l : Launch} {D : va_G} {kA : Nat → ClassId} {M : mM} {T : mT} {sz : Nat} {w cs bs tp : Nat} {td gd py rf lt tl fp : Int32} {b pt : Int32} (hc_w : M w = some (.inr (6, [.int td, .int gd, .int 0, .int py, .int rf, .int lt, .int tl, .int fp, .ref cs, .ref bs, .ref tp]))) : mCi l yX8_hasSigner cX8_hasSigner 3 (some .boolean) 2 0 0 D kA M T sz [.ref w, .int b, .int pt] (fun r u => (r = 0) ∧ u.2 = T ∧ u.1 = M) := by
  unfold mCi
  refine start_W (by decide) (Nat.le_of_ble_eq_true rfl) ?_
  intro p e s m below meth c ls hC hr hlk hnm hK hH hsz hl
  have hx := hC.1
  have hb := hC.2.1
  have hl : lv_has ls 3 [(0, .ref w), (1, .int b), (2, .int pt)] := hl
  refine lv_aload_n hx hb dX8_hasSigner_0 rfl (lv_at hl 0 rfl) ?_
  refine lv_iload_n hx hb dX8_hasSigner_1 rfl (lv_at hl 1 rfl) ?_
  refine lv_iload_n hx hb dX8_hasSigner_2 rfl (lv_at hl 2 rfl) ?_
  refine goI hK hH (runV (As := [.int b, .int pt]) (rest := []) hC hK hH (c_X8_hasParty hc_w) mlX8_76 (rcvM hK hH hc_w rfl) ⟨⟨Nat.le_of_ble_eq_true rfl, Nat.le_of_ble_eq_true rfl⟩, Nat.le_of_ble_eq_true rfl, Nat.le_of_ble_eq_true rfl⟩ rfl hl.1 rfl (Nat.le_of_ble_eq_true rfl) dX8_hasSigner_3) (fun r3 M1 T2 H locs hP hz hH => ?_)
  try dsimp only at hP
  obtain ⟨(rfl), eT, eM⟩ := hP
  have eT := eT.symm; subst eT
  have eM := eM.symm; subst eM
  refine jif_eq (tgt := 26) hx hb dX8_hasSigner_6 (by decide) (fun c4 => ?_) (fun c4 => absurd c4 (by decide))
  refine lv_iconst (v := 0) hx hb dX8_hasSigner_26 (by decide) ?_
  exact ret_z hC hr hlk hK hH (by first | exact Or.inl rfl | exact Or.inr rfl | assumption) (⟨rfl, rfl, rfl⟩) (Nat.le_of_ble_eq_true rfl) (Nat.le_of_ble_eq_true rfl) dX8_hasSigner_27
set_option maxHeartbeats 4000000 in
set_option maxRecDepth 100000 in
theorem c_X8_acceptOne {l : Launch} {D : va_G} {kA : Nat → ClassId} {M : mM} {T : mT} {sz : Nat} {w cs bs tp : Nat} {td gd py rf lt tl fp : Int32} {b : Int32} (hc_w : M w = some (.inr (6, [.int td, .int gd, .int 0, .int py, .int rf, .int lt, .int tl, .int fp, .ref cs, .ref bs, .ref tp]))) : mCi l yX8_acceptOne cX8_acceptOne 3 (some .int) 1 0 0 D kA M T sz [.ref w, .int b] (fun r u => (r = 30) ∧ u.2 = T ∧ u.1 = M) := by
  unfold mCi
  refine start_W (by decide) (Nat.le_of_ble_eq_true rfl) ?_
  intro p e s m below meth c ls hC hr hlk hnm hK hH hsz hl
  have hx := hC.1
  have hb := hC.2.1
  have hl : lv_has ls 3 [(0, .ref w), (1, .int b)] := hl
  refine lv_aload_n hx hb dX8_acceptOne_0 rfl (lv_at hl 0 rfl) ?_
  refine lv_iload_n hx hb dX8_acceptOne_1 rfl (lv_at hl 1 rfl) ?_
  refine goI hK hH (runV (As := [.int b]) (rest := []) hC hK hH (c_X8_hasBill hc_w) mlX8_68 (rcvM hK hH hc_w rfl) ⟨⟨Nat.le_of_ble_eq_true rfl, Nat.le_of_ble_eq_true rfl⟩, Nat.le_of_ble_eq_true rfl, Nat.le_of_ble_eq_true rfl⟩ rfl hl.1 rfl (Nat.le_of_ble_eq_true rfl) dX8_acceptOne_2) (fun r3 M1 T2 H locs hP hz hH => ?_)
  try dsimp only at hP
  obtain ⟨(⟨c4, rfl⟩ | ⟨c5, rfl⟩), eT, eM⟩ := hP
  · skip
    have eT := eT.symm; subst eT
    have eM := eM.symm; subst eM
    have c4 : 0 ≤ b.toInt ∧ b.toInt < (0 : Int) := c4
    exact absurd c4 (by omega)
  · skip
    have eT := eT.symm; subst eT
    have eM := eM.symm; subst eM
    have c5 : ¬ (0 ≤ b.toInt ∧ b.toInt < (0 : Int)) := c5
    refine jif_ne (tgt := 11) hx hb dX8_acceptOne_5 (by decide) (fun c6 => absurd c6 (by decide)) (fun c6 => ?_)
    refine lv_bipush (v := 30) hx hb dX8_acceptOne_8 (by decide) ?_
    exact ret_i hC hr hlk hK hH (⟨rfl, rfl, rfl⟩) (Nat.le_of_ble_eq_true rfl) (Nat.le_of_ble_eq_true rfl) dX8_acceptOne_10
set_option maxHeartbeats 4000000 in
set_option maxRecDepth 100000 in
theorem c_X8_whyNoStep {l : Launch} {D : va_G} {kA : Nat → ClassId} {M : mM} {T : mT} {sz : Nat} {w cs bs tp : Nat} {td gd py rf lt tl fp : Int32} {b to va : Int32} (hc_w : M w = some (.inr (6, [.int td, .int gd, .int 0, .int py, .int rf, .int lt, .int tl, .int fp, .ref cs, .ref bs, .ref tp]))) : mCi l yX8_whyNoStep cX8_whyNoStep 4 (some .int) 1 0 0 D kA M T sz [.ref w, .int b, .int to, .int va] (fun r u => (r = 30) ∧ u.2 = T ∧ u.1 = M) := by
  unfold mCi
  refine start_W (by decide) (Nat.le_of_ble_eq_true rfl) ?_
  intro p e s m below meth c ls hC hr hlk hnm hK hH hsz hl
  have hx := hC.1
  have hb := hC.2.1
  have hl : lv_has ls 4 [(0, .ref w), (1, .int b), (2, .int to), (3, .int va)] := hl
  refine lv_aload_n hx hb dX8_whyNoStep_0 rfl (lv_at hl 0 rfl) ?_
  refine lv_iload_n hx hb dX8_whyNoStep_1 rfl (lv_at hl 1 rfl) ?_
  refine goI hK hH (runV (As := [.int b]) (rest := []) hC hK hH (c_X8_hasBill hc_w) mlX8_68 (rcvM hK hH hc_w rfl) ⟨⟨Nat.le_of_ble_eq_true rfl, Nat.le_of_ble_eq_true rfl⟩, Nat.le_of_ble_eq_true rfl, Nat.le_of_ble_eq_true rfl⟩ rfl hl.1 rfl (Nat.le_of_ble_eq_true rfl) dX8_whyNoStep_2) (fun r3 M1 T2 H locs hP hz hH => ?_)
  try dsimp only at hP
  obtain ⟨(⟨c4, rfl⟩ | ⟨c5, rfl⟩), eT, eM⟩ := hP
  · skip
    have eT := eT.symm; subst eT
    have eM := eM.symm; subst eM
    have c4 : 0 ≤ b.toInt ∧ b.toInt < (0 : Int) := c4
    exact absurd c4 (by omega)
  · skip
    have eT := eT.symm; subst eT
    have eM := eM.symm; subst eM
    have c5 : ¬ (0 ≤ b.toInt ∧ b.toInt < (0 : Int)) := c5
    refine jif_eq (tgt := 26) hx hb dX8_whyNoStep_5 (by decide) (fun c6 => ?_) (fun c6 => absurd c6 (by decide))
    refine lv_bipush (v := 30) hx hb dX8_whyNoStep_26 (by decide) ?_
    exact ret_i hC hr hlk hK hH (⟨rfl, rfl, rfl⟩) (Nat.le_of_ble_eq_true rfl) (Nat.le_of_ble_eq_true rfl) dX8_whyNoStep_28
set_option maxHeartbeats 4000000 in
set_option maxRecDepth 100000 in
theorem c_X8_passOn {l : Launch} {D : va_G} {kA : Nat → ClassId} {M : mM} {T : mT} {sz : Nat} {w cs bs tp : Nat} {td gd py rf lt tl fp : Int32} {b so to va no wi : Int32} (hc_w : M w = some (.inr (6, [.int td, .int gd, .int 0, .int py, .int rf, .int lt, .int tl, .int fp, .ref cs, .ref bs, .ref tp]))) : mCi l yX8_passOn cX8_passOn 10 (some .int) 2 0 0 D kA M T sz [.ref w, .int b, .int so, .int to, .int va, .int no, .int wi] (fun r u => (r = 30) ∧ u.2 = T ∧ u.1 = M) := by
  unfold mCi
  refine start_W (by decide) (Nat.le_of_ble_eq_true rfl) ?_
  intro p e s m below meth c ls hC hr hlk hnm hK hH hsz hl
  have hx := hC.1
  have hb := hC.2.1
  have hl : lv_has ls 10 [(0, .ref w), (1, .int b), (2, .int so), (3, .int to), (4, .int va), (5, .int no), (6, .int wi)] := hl
  refine lv_iload_n hx hb dX8_passOn_0 rfl (lv_at hl 2 rfl) ?_
  refine jif_lt (tgt := 19) hx hb dX8_passOn_1 (by decide) (fun c1 => ?_) (fun c1 => ?_)
  · skip
    have c1 : so.toInt < 0 := c1
    refine lv_bipush (v := 30) hx hb dX8_passOn_19 (by decide) ?_
    exact ret_i hC hr hlk hK hH (⟨rfl, rfl, rfl⟩) (Nat.le_of_ble_eq_true rfl) (Nat.le_of_ble_eq_true rfl) dX8_passOn_21
  · skip
    have c1 : 0 ≤ so.toInt := c1
    refine lv_iload_n hx hb dX8_passOn_4 rfl (lv_at hl 2 rfl) ?_
    refine lv_iconst (v := 3) hx hb dX8_passOn_5 (by decide) ?_
    refine jic_gt (tgt := 19) hx hb dX8_passOn_6 (by decide) (fun c2 => ?_) (fun c2 => ?_)
    · skip
      have c2 : 3 < so.toInt := c2
      refine lv_bipush (v := 30) hx hb dX8_passOn_19 (by decide) ?_
      exact ret_i hC hr hlk hK hH (⟨rfl, rfl, rfl⟩) (Nat.le_of_ble_eq_true rfl) (Nat.le_of_ble_eq_true rfl) dX8_passOn_21
    · skip
      have c2 : so.toInt ≤ 3 := c2
      refine lv_iload hx hb dX8_passOn_9 (lv_at hl 6 rfl) ?_
      refine jif_eq (tgt := 22) hx hb dX8_passOn_11 (by decide) (fun c3 => ?_) (fun c3 => ?_)
      · skip
        have c3 : wi.toInt = 0 := c3
        refine lv_aload_n hx hb dX8_passOn_22 rfl (lv_at hl 0 rfl) ?_
        refine lv_iload_n hx hb dX8_passOn_23 rfl (lv_at hl 1 rfl) ?_
        refine lv_iload_n hx hb dX8_passOn_24 rfl (lv_at hl 3 rfl) ?_
        refine lv_iload hx hb dX8_passOn_25 (lv_at hl 4 rfl) ?_
        refine goI hK hH (runV (As := [.int b, .int to, .int va]) (rest := []) hC hK hH (c_X8_whyNoStep hc_w) mlX8_109 (rcvM hK hH hc_w rfl) ⟨⟨Nat.le_of_ble_eq_true rfl, Nat.le_of_ble_eq_true rfl⟩, Nat.le_of_ble_eq_true rfl, Nat.le_of_ble_eq_true rfl⟩ rfl hl.1 rfl (Nat.le_of_ble_eq_true rfl) dX8_passOn_27) (fun r6 M4 T5 H locs hP hz hH => ?_)
        try dsimp only at hP
        obtain ⟨(rfl), eT, eM⟩ := hP
        have eT := eT.symm; subst eT
        have eM := eM.symm; subst eM
        refine lv_istore (lv' := [(7, .int 30), (0, .ref w), (1, .int b), (2, .int so), (3, .int to), (4, .int va), (5, .int no), (6, .int wi)]) hx hb dX8_passOn_30 hl (by decide) rfl (fun ls hl => ?_)
        refine lv_iload hx hb dX8_passOn_32 (lv_at hl 0 rfl) ?_
        refine jif_ne (tgt := 100) hx hb dX8_passOn_34 (by decide) (fun c7 => ?_) (fun c7 => absurd c7 (by decide))
        refine lv_iload hx hb dX8_passOn_100 (lv_at hl 0 rfl) ?_
        exact ret_i hC hr hlk hK hH (⟨rfl, rfl, rfl⟩) (Nat.le_of_ble_eq_true rfl) (Nat.le_of_ble_eq_true rfl) dX8_passOn_102
      · skip
        have c3 : wi.toInt ≠ 0 := c3
        refine lv_iload_n hx hb dX8_passOn_14 rfl (lv_at hl 2 rfl) ?_
        refine lv_iconst (v := 3) hx hb dX8_passOn_15 (by decide) ?_
        refine jic_ne (tgt := 22) hx hb dX8_passOn_16 (by decide) (fun c8 => ?_) (fun c8 => ?_)
        · skip
          have c8 : so.toInt ≠ 3 := c8
          refine lv_aload_n hx hb dX8_passOn_22 rfl (lv_at hl 0 rfl) ?_
          refine lv_iload_n hx hb dX8_passOn_23 rfl (lv_at hl 1 rfl) ?_
          refine lv_iload_n hx hb dX8_passOn_24 rfl (lv_at hl 3 rfl) ?_
          refine lv_iload hx hb dX8_passOn_25 (lv_at hl 4 rfl) ?_
          refine goI hK hH (runV (As := [.int b, .int to, .int va]) (rest := []) hC hK hH (c_X8_whyNoStep hc_w) mlX8_109 (rcvM hK hH hc_w rfl) ⟨⟨Nat.le_of_ble_eq_true rfl, Nat.le_of_ble_eq_true rfl⟩, Nat.le_of_ble_eq_true rfl, Nat.le_of_ble_eq_true rfl⟩ rfl hl.1 rfl (Nat.le_of_ble_eq_true rfl) dX8_passOn_27) (fun r11 M9 T10 H locs hP hz hH => ?_)
          try dsimp only at hP
          obtain ⟨(rfl), eT, eM⟩ := hP
          have eT := eT.symm; subst eT
          have eM := eM.symm; subst eM
          refine lv_istore (lv' := [(7, .int 30), (0, .ref w), (1, .int b), (2, .int so), (3, .int to), (4, .int va), (5, .int no), (6, .int wi)]) hx hb dX8_passOn_30 hl (by decide) rfl (fun ls hl => ?_)
          refine lv_iload hx hb dX8_passOn_32 (lv_at hl 0 rfl) ?_
          refine jif_ne (tgt := 100) hx hb dX8_passOn_34 (by decide) (fun c12 => ?_) (fun c12 => absurd c12 (by decide))
          refine lv_iload hx hb dX8_passOn_100 (lv_at hl 0 rfl) ?_
          exact ret_i hC hr hlk hK hH (⟨rfl, rfl, rfl⟩) (Nat.le_of_ble_eq_true rfl) (Nat.le_of_ble_eq_true rfl) dX8_passOn_102
        · skip
          have c8 : so.toInt = 3 := c8
          refine lv_bipush (v := 30) hx hb dX8_passOn_19 (by decide) ?_
          exact ret_i hC hr hlk hK hH (⟨rfl, rfl, rfl⟩) (Nat.le_of_ble_eq_true rfl) (Nat.le_of_ble_eq_true rfl) dX8_passOn_21
set_option maxHeartbeats 4000000 in
set_option maxRecDepth 100000 in
theorem c_X8_passForged {l : Launch} {D : va_G} {kA : Nat → ClassId} {M : mM} {T : mT} {sz : Nat} {w cs bs tp : Nat} {td gd py rf lt tl fp : Int32} {b nm to va no : Int32} (hc_w : M w = some (.inr (6, [.int td, .int gd, .int 0, .int py, .int rf, .int lt, .int tl, .int fp, .ref cs, .ref bs, .ref tp]))) : mCi l yX8_passForged cX8_passForged 9 (some .int) 2 0 0 D kA M T sz [.ref w, .int b, .int nm, .int to, .int va, .int no] (fun r u => (r = 30) ∧ u.2 = T ∧ u.1 = M) := by
  unfold mCi
  refine start_W (by decide) (Nat.le_of_ble_eq_true rfl) ?_
  intro p e s m below meth c ls hC hr hlk hnm hK hH hsz hl
  have hx := hC.1
  have hb := hC.2.1
  have hl : lv_has ls 9 [(0, .ref w), (1, .int b), (2, .int nm), (3, .int to), (4, .int va), (5, .int no)] := hl
  refine lv_aload_n hx hb dX8_passForged_0 rfl (lv_at hl 0 rfl) ?_
  refine lv_iload_n hx hb dX8_passForged_1 rfl (lv_at hl 1 rfl) ?_
  refine goI hK hH (runV (As := [.int b]) (rest := []) hC hK hH (c_X8_hasBill hc_w) mlX8_68 (rcvM hK hH hc_w rfl) ⟨⟨Nat.le_of_ble_eq_true rfl, Nat.le_of_ble_eq_true rfl⟩, Nat.le_of_ble_eq_true rfl, Nat.le_of_ble_eq_true rfl⟩ rfl hl.1 rfl (Nat.le_of_ble_eq_true rfl) dX8_passForged_2) (fun r3 M1 T2 H locs hP hz hH => ?_)
  try dsimp only at hP
  obtain ⟨(⟨c4, rfl⟩ | ⟨c5, rfl⟩), eT, eM⟩ := hP
  · skip
    have eT := eT.symm; subst eT
    have eM := eM.symm; subst eM
    have c4 : 0 ≤ b.toInt ∧ b.toInt < (0 : Int) := c4
    exact absurd c4 (by omega)
  · skip
    have eT := eT.symm; subst eT
    have eM := eM.symm; subst eM
    have c5 : ¬ (0 ≤ b.toInt ∧ b.toInt < (0 : Int)) := c5
    refine jif_eq (tgt := 28) hx hb dX8_passForged_5 (by decide) (fun c6 => ?_) (fun c6 => absurd c6 (by decide))
    refine lv_bipush (v := 30) hx hb dX8_passForged_28 (by decide) ?_
    exact ret_i hC hr hlk hK hH (⟨rfl, rfl, rfl⟩) (Nat.le_of_ble_eq_true rfl) (Nat.le_of_ble_eq_true rfl) dX8_passForged_30
set_option maxHeartbeats 4000000 in
set_option maxRecDepth 100000 in
theorem c_X8_findOne {l : Launch} {D : va_G} {kA : Nat → ClassId} {M : mM} {T : mT} {sz : Nat} {w cs bs tp : Nat} {td gd py rf lt tl fp : Int32} {b by_ : Int32} (hc_w : M w = some (.inr (6, [.int td, .int gd, .int 0, .int py, .int rf, .int lt, .int tl, .int fp, .ref cs, .ref bs, .ref tp]))) : mCi l yX8_findOne cX8_findOne 5 (some .int) 2 0 0 D kA M T sz [.ref w, .int b, .int by_] (fun r u => (r = 30) ∧ u.2 = T ∧ u.1 = M) := by
  unfold mCi
  refine start_W (by decide) (Nat.le_of_ble_eq_true rfl) ?_
  intro p e s m below meth c ls hC hr hlk hnm hK hH hsz hl
  have hx := hC.1
  have hb := hC.2.1
  have hl : lv_has ls 5 [(0, .ref w), (1, .int b), (2, .int by_)] := hl
  refine lv_aload_n hx hb dX8_findOne_0 rfl (lv_at hl 0 rfl) ?_
  refine lv_iload_n hx hb dX8_findOne_1 rfl (lv_at hl 1 rfl) ?_
  refine lv_iload_n hx hb dX8_findOne_2 rfl (lv_at hl 2 rfl) ?_
  refine lv_iconst (v := 0) hx hb dX8_findOne_3 (by decide) ?_
  refine goI hK hH (runV (As := [.int b, .int by_, .int 0]) (rest := []) hC hK hH (c_X8_whyNoStep hc_w) mlX8_109 (rcvM hK hH hc_w rfl) ⟨⟨Nat.le_of_ble_eq_true rfl, Nat.le_of_ble_eq_true rfl⟩, Nat.le_of_ble_eq_true rfl, Nat.le_of_ble_eq_true rfl⟩ rfl hl.1 rfl (Nat.le_of_ble_eq_true rfl) dX8_findOne_4) (fun r3 M1 T2 H locs hP hz hH => ?_)
  try dsimp only at hP
  obtain ⟨(rfl), eT, eM⟩ := hP
  have eT := eT.symm; subst eT
  have eM := eM.symm; subst eM
  refine lv_istore_n (lv' := [(3, .int 30), (0, .ref w), (1, .int b), (2, .int by_)]) hx hb dX8_findOne_7 rfl hl (by decide) rfl (fun ls hl => ?_)
  refine lv_iload_n hx hb dX8_findOne_8 rfl (lv_at hl 0 rfl) ?_
  refine jif_ne (tgt := 37) hx hb dX8_findOne_9 (by decide) (fun c4 => ?_) (fun c4 => absurd c4 (by decide))
  refine lv_iload_n hx hb dX8_findOne_37 rfl (lv_at hl 0 rfl) ?_
  exact ret_i hC hr hlk hK hH (⟨rfl, rfl, rfl⟩) (Nat.le_of_ble_eq_true rfl) (Nat.le_of_ble_eq_true rfl) dX8_findOne_38
set_option maxHeartbeats 4000000 in
set_option maxRecDepth 100000 in
theorem c_X8_giveDefence {l : Launch} {D : va_G} {kA : Nat → ClassId} {M : mM} {T : mT} {sz : Nat} {w cs bs tp : Nat} {td gd py rf lt tl fp : Int32} {b pt re : Int32} (hc_w : M w = some (.inr (6, [.int td, .int gd, .int 0, .int py, .int rf, .int lt, .int tl, .int fp, .ref cs, .ref bs, .ref tp]))) : mCi l yX8_giveDefence cX8_giveDefence 6 (some .int) 3 0 0 D kA M T sz [.ref w, .int b, .int pt, .int re] (fun r u => (r = 30) ∧ u.2 = T ∧ u.1 = M) := by
  unfold mCi
  refine start_W (by decide) (Nat.le_of_ble_eq_true rfl) ?_
  intro p e s m below meth c ls hC hr hlk hnm hK hH hsz hl
  have hx := hC.1
  have hb := hC.2.1
  have hl : lv_has ls 6 [(0, .ref w), (1, .int b), (2, .int pt), (3, .int re)] := hl
  refine lv_aload_n hx hb dX8_giveDefence_0 rfl (lv_at hl 0 rfl) ?_
  refine lv_iload_n hx hb dX8_giveDefence_1 rfl (lv_at hl 1 rfl) ?_
  refine lv_iload_n hx hb dX8_giveDefence_2 rfl (lv_at hl 2 rfl) ?_
  refine goI hK hH (runV (As := [.int b, .int pt]) (rest := []) hC hK hH (c_X8_hasSigner hc_w) mlX8_138 (rcvM hK hH hc_w rfl) ⟨⟨Nat.le_of_ble_eq_true rfl, Nat.le_of_ble_eq_true rfl⟩, Nat.le_of_ble_eq_true rfl, Nat.le_of_ble_eq_true rfl⟩ rfl hl.1 rfl (Nat.le_of_ble_eq_true rfl) dX8_giveDefence_3) (fun r3 M1 T2 H locs hP hz hH => ?_)
  try dsimp only at hP
  obtain ⟨(rfl), eT, eM⟩ := hP
  have eT := eT.symm; subst eT
  have eM := eM.symm; subst eM
  refine jif_ne (tgt := 12) hx hb dX8_giveDefence_6 (by decide) (fun c4 => absurd c4 (by decide)) (fun c4 => ?_)
  refine lv_bipush (v := 30) hx hb dX8_giveDefence_9 (by decide) ?_
  exact ret_i hC hr hlk hK hH (⟨rfl, rfl, rfl⟩) (Nat.le_of_ble_eq_true rfl) (Nat.le_of_ble_eq_true rfl) dX8_giveDefence_11
set_option maxHeartbeats 4000000 in
set_option maxRecDepth 100000 in
theorem c_X8_presentOne {l : Launch} {D : va_G} {kA : Nat → ClassId} {M : mM} {T : mT} {sz : Nat} {w cs bs tp : Nat} {td gd py rf lt tl fp : Int32} {b : Int32} (hc_w : M w = some (.inr (6, [.int td, .int gd, .int 0, .int py, .int rf, .int lt, .int tl, .int fp, .ref cs, .ref bs, .ref tp]))) : mCi l yX8_presentOne cX8_presentOne 3 (some .int) 1 0 0 D kA M T sz [.ref w, .int b] (fun r u => (r = 30) ∧ u.2 = T ∧ u.1 = M) := by
  unfold mCi
  refine start_W (by decide) (Nat.le_of_ble_eq_true rfl) ?_
  intro p e s m below meth c ls hC hr hlk hnm hK hH hsz hl
  have hx := hC.1
  have hb := hC.2.1
  have hl : lv_has ls 3 [(0, .ref w), (1, .int b)] := hl
  refine lv_aload_n hx hb dX8_presentOne_0 rfl (lv_at hl 0 rfl) ?_
  refine lv_iload_n hx hb dX8_presentOne_1 rfl (lv_at hl 1 rfl) ?_
  refine goI hK hH (runV (As := [.int b]) (rest := []) hC hK hH (c_X8_hasBill hc_w) mlX8_68 (rcvM hK hH hc_w rfl) ⟨⟨Nat.le_of_ble_eq_true rfl, Nat.le_of_ble_eq_true rfl⟩, Nat.le_of_ble_eq_true rfl, Nat.le_of_ble_eq_true rfl⟩ rfl hl.1 rfl (Nat.le_of_ble_eq_true rfl) dX8_presentOne_2) (fun r3 M1 T2 H locs hP hz hH => ?_)
  try dsimp only at hP
  obtain ⟨(⟨c4, rfl⟩ | ⟨c5, rfl⟩), eT, eM⟩ := hP
  · skip
    have eT := eT.symm; subst eT
    have eM := eM.symm; subst eM
    have c4 : 0 ≤ b.toInt ∧ b.toInt < (0 : Int) := c4
    exact absurd c4 (by omega)
  · skip
    have eT := eT.symm; subst eT
    have eM := eM.symm; subst eM
    have c5 : ¬ (0 ≤ b.toInt ∧ b.toInt < (0 : Int)) := c5
    refine jif_ne (tgt := 11) hx hb dX8_presentOne_5 (by decide) (fun c6 => absurd c6 (by decide)) (fun c6 => ?_)
    refine lv_bipush (v := 30) hx hb dX8_presentOne_8 (by decide) ?_
    exact ret_i hC hr hlk hK hH (⟨rfl, rfl, rfl⟩) (Nat.le_of_ble_eq_true rfl) (Nat.le_of_ble_eq_true rfl) dX8_presentOne_10
set_option maxHeartbeats 4000000 in
set_option maxRecDepth 100000 in
theorem c_X8_giveNotice {l : Launch} {D : va_G} {kA : Nat → ClassId} {M : mM} {T : mT} {sz : Nat} {w cs bs tp : Nat} {td gd py rf lt tl fp : Int32} {b fr to : Int32} (hc_w : M w = some (.inr (6, [.int td, .int gd, .int 0, .int py, .int rf, .int lt, .int tl, .int fp, .ref cs, .ref bs, .ref tp]))) : mCi l yX8_giveNotice cX8_giveNotice 5 (some .int) 3 0 0 D kA M T sz [.ref w, .int b, .int fr, .int to] (fun r u => (r = 30) ∧ u.2 = T ∧ u.1 = M) := by
  unfold mCi
  refine start_W (by decide) (Nat.le_of_ble_eq_true rfl) ?_
  intro p e s m below meth c ls hC hr hlk hnm hK hH hsz hl
  have hx := hC.1
  have hb := hC.2.1
  have hl : lv_has ls 5 [(0, .ref w), (1, .int b), (2, .int fr), (3, .int to)] := hl
  refine lv_iload_n hx hb dX8_giveNotice_0 rfl (lv_at hl 3 rfl) ?_
  refine lv_iconst (v := 1) hx hb dX8_giveNotice_1 (by decide) ?_
  refine jic_lt (tgt := 28) hx hb dX8_giveNotice_2 (by decide) (fun c1 => ?_) (fun c1 => ?_)
  · skip
    have c1 : to.toInt < 1 := c1
    refine lv_bipush (v := 30) hx hb dX8_giveNotice_28 (by decide) ?_
    exact ret_i hC hr hlk hK hH (⟨rfl, rfl, rfl⟩) (Nat.le_of_ble_eq_true rfl) (Nat.le_of_ble_eq_true rfl) dX8_giveNotice_30
  · skip
    have c1 : 1 ≤ to.toInt := c1
    refine lv_aload_n hx hb dX8_giveNotice_5 rfl (lv_at hl 0 rfl) ?_
    refine lv_iload_n hx hb dX8_giveNotice_6 rfl (lv_at hl 1 rfl) ?_
    refine lv_iload_n hx hb dX8_giveNotice_7 rfl (lv_at hl 3 rfl) ?_
    refine goI hK hH (runV (As := [.int b, .int to]) (rest := []) hC hK hH (c_X8_hasSigner hc_w) mlX8_138 (rcvM hK hH hc_w rfl) ⟨⟨Nat.le_of_ble_eq_true rfl, Nat.le_of_ble_eq_true rfl⟩, Nat.le_of_ble_eq_true rfl, Nat.le_of_ble_eq_true rfl⟩ rfl hl.1 rfl (Nat.le_of_ble_eq_true rfl) dX8_giveNotice_8) (fun r4 M2 T3 H locs hP hz hH => ?_)
    try dsimp only at hP
    obtain ⟨(rfl), eT, eM⟩ := hP
    have eT := eT.symm; subst eT
    have eM := eM.symm; subst eM
    refine jif_eq (tgt := 28) hx hb dX8_giveNotice_11 (by decide) (fun c5 => ?_) (fun c5 => absurd c5 (by decide))
    refine lv_bipush (v := 30) hx hb dX8_giveNotice_28 (by decide) ?_
    exact ret_i hC hr hlk hK hH (⟨rfl, rfl, rfl⟩) (Nat.le_of_ble_eq_true rfl) (Nat.le_of_ble_eq_true rfl) dX8_giveNotice_30
set_option maxHeartbeats 4000000 in
set_option maxRecDepth 100000 in
theorem c_X8_releaseOne {l : Launch} {D : va_G} {kA : Nat → ClassId} {M : mM} {T : mT} {sz : Nat} {w cs bs tp : Nat} {td gd py rf lt tl fp : Int32} {b pt : Int32} (hc_w : M w = some (.inr (6, [.int td, .int gd, .int 0, .int py, .int rf, .int lt, .int tl, .int fp, .ref cs, .ref bs, .ref tp]))) : mCi l yX8_releaseOne cX8_releaseOne 4 (some .int) 3 0 0 D kA M T sz [.ref w, .int b, .int pt] (fun r u => (r = 30) ∧ u.2 = T ∧ u.1 = M) := by
  unfold mCi
  refine start_W (by decide) (Nat.le_of_ble_eq_true rfl) ?_
  intro p e s m below meth c ls hC hr hlk hnm hK hH hsz hl
  have hx := hC.1
  have hb := hC.2.1
  have hl : lv_has ls 4 [(0, .ref w), (1, .int b), (2, .int pt)] := hl
  refine lv_aload_n hx hb dX8_releaseOne_0 rfl (lv_at hl 0 rfl) ?_
  refine lv_iload_n hx hb dX8_releaseOne_1 rfl (lv_at hl 1 rfl) ?_
  refine lv_iload_n hx hb dX8_releaseOne_2 rfl (lv_at hl 2 rfl) ?_
  refine goI hK hH (runV (As := [.int b, .int pt]) (rest := []) hC hK hH (c_X8_hasSigner hc_w) mlX8_138 (rcvM hK hH hc_w rfl) ⟨⟨Nat.le_of_ble_eq_true rfl, Nat.le_of_ble_eq_true rfl⟩, Nat.le_of_ble_eq_true rfl, Nat.le_of_ble_eq_true rfl⟩ rfl hl.1 rfl (Nat.le_of_ble_eq_true rfl) dX8_releaseOne_3) (fun r3 M1 T2 H locs hP hz hH => ?_)
  try dsimp only at hP
  obtain ⟨(rfl), eT, eM⟩ := hP
  have eT := eT.symm; subst eT
  have eM := eM.symm; subst eM
  refine jif_ne (tgt := 12) hx hb dX8_releaseOne_6 (by decide) (fun c4 => absurd c4 (by decide)) (fun c4 => ?_)
  refine lv_bipush (v := 30) hx hb dX8_releaseOne_9 (by decide) ?_
  exact ret_i hC hr hlk hK hH (⟨rfl, rfl, rfl⟩) (Nat.le_of_ble_eq_true rfl) (Nat.le_of_ble_eq_true rfl) dX8_releaseOne_11
set_option maxHeartbeats 4000000 in
set_option maxRecDepth 100000 in
theorem c_X8_payOne {l : Launch} {D : va_G} {kA : Nat → ClassId} {M : mM} {T : mT} {sz : Nat} {w cs bs tp : Nat} {td gd py rf lt tl fp : Int32} {b pt : Int32} (hc_w : M w = some (.inr (6, [.int td, .int gd, .int 0, .int py, .int rf, .int lt, .int tl, .int fp, .ref cs, .ref bs, .ref tp]))) : mCi l yX8_payOne cX8_payOne 5 (some .int) 2 0 0 D kA M T sz [.ref w, .int b, .int pt] (fun r u => (r = 30) ∧ u.2 = T ∧ u.1 = M) := by
  unfold mCi
  refine start_W (by decide) (Nat.le_of_ble_eq_true rfl) ?_
  intro p e s m below meth c ls hC hr hlk hnm hK hH hsz hl
  have hx := hC.1
  have hb := hC.2.1
  have hl : lv_has ls 5 [(0, .ref w), (1, .int b), (2, .int pt)] := hl
  refine lv_aload_n hx hb dX8_payOne_0 rfl (lv_at hl 0 rfl) ?_
  refine lv_iload_n hx hb dX8_payOne_1 rfl (lv_at hl 1 rfl) ?_
  refine lv_iload_n hx hb dX8_payOne_2 rfl (lv_at hl 2 rfl) ?_
  refine goI hK hH (runV (As := [.int b, .int pt]) (rest := []) hC hK hH (c_X8_hasParty hc_w) mlX8_76 (rcvM hK hH hc_w rfl) ⟨⟨Nat.le_of_ble_eq_true rfl, Nat.le_of_ble_eq_true rfl⟩, Nat.le_of_ble_eq_true rfl, Nat.le_of_ble_eq_true rfl⟩ rfl hl.1 rfl (Nat.le_of_ble_eq_true rfl) dX8_payOne_3) (fun r3 M1 T2 H locs hP hz hH => ?_)
  try dsimp only at hP
  obtain ⟨(rfl), eT, eM⟩ := hP
  have eT := eT.symm; subst eT
  have eM := eM.symm; subst eM
  refine jif_ne (tgt := 12) hx hb dX8_payOne_6 (by decide) (fun c4 => absurd c4 (by decide)) (fun c4 => ?_)
  refine lv_bipush (v := 30) hx hb dX8_payOne_9 (by decide) ?_
  exact ret_i hC hr hlk hK hH (⟨rfl, rfl, rfl⟩) (Nat.le_of_ble_eq_true rfl) (Nat.le_of_ble_eq_true rfl) dX8_payOne_11
set_option maxHeartbeats 4000000 in
set_option maxRecDepth 100000 in
theorem c_X8_goOn {l : Launch} {D : va_G} {kA : Nat → ClassId} {M : mM} {T : mT} {sz : Nat} {w cs bs tp : Nat} {gd bc py rf lt tl fp : Int32} {n : Int32} (hc_w : M w = some (.inr (6, [.int 0, .int gd, .int bc, .int py, .int rf, .int lt, .int tl, .int fp, .ref cs, .ref bs, .ref tp]))) : mCi l yX8_goOn cX8_goOn 2 (some .int) 0 0 0 D kA M T sz [.ref w, .int n] (fun r u => (((1 ≤ n.toInt ∧ n.toInt ≤ 99) ∧ r = 0 ∧ u.1 w = some (.inr (6, [.int (0 + n), .int gd, .int bc, .int py, .int rf, .int lt, .int tl, .int fp, .ref cs, .ref bs, .ref tp]))) ∨ ((¬ (1 ≤ n.toInt ∧ n.toInt ≤ 99)) ∧ r = 30 ∧ u.1 w = some (.inr (6, [.int 0, .int gd, .int bc, .int py, .int rf, .int lt, .int tl, .int fp, .ref cs, .ref bs, .ref tp])))) ∧ u.2 = T ∧ (∀ q, q ≠ w → u.1 q = M q)) := by
  unfold mCi
  refine start_W (by decide) (Nat.le_of_ble_eq_true rfl) ?_
  intro p e s m below meth c ls hC hr hlk hnm hK hH hsz hl
  have hx := hC.1
  have hb := hC.2.1
  have hl : lv_has ls 2 [(0, .ref w), (1, .int n)] := hl
  have hF : ∀ q, q ≠ w → M q = M q := fun q _ => rfl
  refine lv_iload_n hx hb dX8_goOn_0 rfl (lv_at hl 1 rfl) ?_
  refine lv_iconst (v := 1) hx hb dX8_goOn_1 (by decide) ?_
  refine jic_lt (tgt := 23) hx hb dX8_goOn_2 (by decide) (fun c1 => ?_) (fun c1 => ?_)
  · skip
    have c1 : n.toInt < 1 := c1
    refine lv_bipush (v := 30) hx hb dX8_goOn_23 (by decide) ?_
    exact ret_i hC hr hlk hK hH (⟨Or.inr (⟨by omega, rfl, hc_w⟩), rfl, hF⟩) (Nat.le_of_ble_eq_true rfl) (Nat.le_of_ble_eq_true rfl) dX8_goOn_25
  · skip
    have c1 : 1 ≤ n.toInt := c1
    refine lv_iload_n hx hb dX8_goOn_5 rfl (lv_at hl 1 rfl) ?_
    refine lv_bipush (v := 99) hx hb dX8_goOn_6 (by decide) ?_
    refine jic_gt (tgt := 23) hx hb dX8_goOn_8 (by decide) (fun c2 => ?_) (fun c2 => ?_)
    · skip
      have c2 : 99 < n.toInt := c2
      refine lv_bipush (v := 30) hx hb dX8_goOn_23 (by decide) ?_
      exact ret_i hC hr hlk hK hH (⟨Or.inr (⟨by omega, rfl, hc_w⟩), rfl, hF⟩) (Nat.le_of_ble_eq_true rfl) (Nat.le_of_ble_eq_true rfl) dX8_goOn_25
    · skip
      have c2 : n.toInt ≤ 99 := c2
      refine lv_aload_n hx hb dX8_goOn_11 rfl (lv_at hl 0 rfl) ?_
      refine xg hC hK hH flX8_29 hc_w rfl dX8_goOn_12 ?_
      refine lv_iload_n hx hb dX8_goOn_15 rfl (lv_at hl 1 rfl) ?_
      refine lv_iadd hx hb dX8_goOn_16 ?_
      refine lv_topi (fun z3 e_z3 => ?_)
      have h_z3 : z3.toInt = 0 + n.toInt := by rw [e_z3, iAdd (by have : (0 : Int32).toInt = 0 := rfl; have := iRg n; omega) (by have : (0 : Int32).toInt = 0 := rfl; have := iRg n; omega)]; rfl
      refine lv_sipush (v := 999) hx hb dX8_goOn_17 (by decide) ?_
      refine jic_le (tgt := 26) hx hb dX8_goOn_20 (by decide) (fun c4 => ?_) (fun c4 => absurd c4 (by have := iRg z3; have : (999 : Int32).toInt = 999 := rfl; omega))
      have c4 : z3.toInt ≤ 999 := c4
      refine lv_aload_n hx hb dX8_goOn_26 rfl (lv_at hl 0 rfl) ?_
      refine lv_dup hx hb dX8_goOn_27 rfl ?_
      refine xg hC hK hH flX8_29 hc_w rfl dX8_goOn_28 ?_
      refine lv_iload_n hx hb dX8_goOn_31 rfl (lv_at hl 1 rfl) ?_
      refine lv_iadd hx hb dX8_goOn_32 ?_
      refine lv_topi (fun z5 e_z5 => ?_)
      have h_z5 : z5.toInt = 0 + n.toInt := by rw [e_z5, iAdd (by have : (0 : Int32).toInt = 0 := rfl; have := iRg n; omega) (by have : (0 : Int32).toInt = 0 := rfl; have := iRg n; omega)]; rfl
      refine yp (v := .int z5) hC hK hH flX8_29 hc_w rfl rfl (Nat.le_of_ble_eq_true rfl) dX8_goOn_33 (fun H locs M6 hc_w hfr hH => ?_)
      have hc_w : M6 w = some (.inr (6, [.int z5, .int gd, .int bc, .int py, .int rf, .int lt, .int tl, .int fp, .ref cs, .ref bs, .ref tp])) := hc_w
      have hF : ∀ q, q ≠ w → M6 q = M q := fun q h0 => (hfr q h0).trans (hF q h0)
      refine lv_iconst (v := 0) hx hb dX8_goOn_36 (by decide) ?_
      subst e_z5
      subst e_z3
      exact ret_i hC hr hlk hK hH (⟨Or.inl (⟨by omega, rfl, hc_w⟩), rfl, hF⟩) (Nat.le_of_ble_eq_true rfl) (Nat.le_of_ble_eq_true rfl) dX8_goOn_37
set_option maxHeartbeats 4000000 in
set_option maxRecDepth 100000 in
theorem c_X8_setGrace {l : Launch} {D : va_G} {kA : Nat → ClassId} {M : mM} {T : mT} {sz : Nat} {w cs bs tp : Nat} {td gd bc py rf lt tl fp : Int32} {n : Int32} (hc_w : M w = some (.inr (6, [.int td, .int gd, .int bc, .int py, .int rf, .int lt, .int tl, .int fp, .ref cs, .ref bs, .ref tp]))) : mCi l yX8_setGrace cX8_setGrace 2 (some .int) 0 0 0 D kA M T sz [.ref w, .int n] (fun r u => (((1 ≤ n.toInt ∧ n.toInt ≤ 9) ∧ r = 0 ∧ u.1 w = some (.inr (6, [.int td, .int n, .int bc, .int py, .int rf, .int lt, .int tl, .int fp, .ref cs, .ref bs, .ref tp]))) ∨ ((¬ (1 ≤ n.toInt ∧ n.toInt ≤ 9)) ∧ r = 30 ∧ u.1 w = some (.inr (6, [.int td, .int gd, .int bc, .int py, .int rf, .int lt, .int tl, .int fp, .ref cs, .ref bs, .ref tp])))) ∧ u.2 = T ∧ (∀ q, q ≠ w → u.1 q = M q)) := by
  unfold mCi
  refine start_W (by decide) (Nat.le_of_ble_eq_true rfl) ?_
  intro p e s m below meth c ls hC hr hlk hnm hK hH hsz hl
  have hx := hC.1
  have hb := hC.2.1
  have hl : lv_has ls 2 [(0, .ref w), (1, .int n)] := hl
  have hF : ∀ q, q ≠ w → M q = M q := fun q _ => rfl
  refine lv_iload_n hx hb dX8_setGrace_0 rfl (lv_at hl 1 rfl) ?_
  refine lv_iconst (v := 1) hx hb dX8_setGrace_1 (by decide) ?_
  refine jic_lt (tgt := 11) hx hb dX8_setGrace_2 (by decide) (fun c1 => ?_) (fun c1 => ?_)
  · skip
    have c1 : n.toInt < 1 := c1
    refine lv_bipush (v := 30) hx hb dX8_setGrace_11 (by decide) ?_
    exact ret_i hC hr hlk hK hH (⟨Or.inr (⟨by omega, rfl, hc_w⟩), rfl, hF⟩) (Nat.le_of_ble_eq_true rfl) (Nat.le_of_ble_eq_true rfl) dX8_setGrace_13
  · skip
    have c1 : 1 ≤ n.toInt := c1
    refine lv_iload_n hx hb dX8_setGrace_5 rfl (lv_at hl 1 rfl) ?_
    refine lv_bipush (v := 9) hx hb dX8_setGrace_6 (by decide) ?_
    refine jic_le (tgt := 14) hx hb dX8_setGrace_8 (by decide) (fun c2 => ?_) (fun c2 => ?_)
    · skip
      have c2 : n.toInt ≤ 9 := c2
      refine lv_aload_n hx hb dX8_setGrace_14 rfl (lv_at hl 0 rfl) ?_
      refine lv_iload_n hx hb dX8_setGrace_15 rfl (lv_at hl 1 rfl) ?_
      refine yp (v := .int n) hC hK hH flX8_33 hc_w rfl rfl (Nat.le_of_ble_eq_true rfl) dX8_setGrace_16 (fun H locs M3 hc_w hfr hH => ?_)
      have hc_w : M3 w = some (.inr (6, [.int td, .int n, .int bc, .int py, .int rf, .int lt, .int tl, .int fp, .ref cs, .ref bs, .ref tp])) := hc_w
      have hF : ∀ q, q ≠ w → M3 q = M q := fun q h0 => (hfr q h0).trans (hF q h0)
      refine lv_iconst (v := 0) hx hb dX8_setGrace_19 (by decide) ?_
      exact ret_i hC hr hlk hK hH (⟨Or.inl (⟨by omega, rfl, hc_w⟩), rfl, hF⟩) (Nat.le_of_ble_eq_true rfl) (Nat.le_of_ble_eq_true rfl) dX8_setGrace_20
    · skip
      have c2 : 9 < n.toInt := c2
      refine lv_bipush (v := 30) hx hb dX8_setGrace_11 (by decide) ?_
      exact ret_i hC hr hlk hK hH (⟨Or.inr (⟨by omega, rfl, hc_w⟩), rfl, hF⟩) (Nat.le_of_ble_eq_true rfl) (Nat.le_of_ble_eq_true rfl) dX8_setGrace_13
set_option maxHeartbeats 4000000 in
set_option maxRecDepth 100000 in
theorem c_X8_setCash {l : Launch} {D : va_G} {kA : Nat → ClassId} {M : mM} {T : mT} {sz : Nat} {w cs bs tp : Nat} {td gd bc py rf lt tl fp : Int32} {ps n : Int32} {f : Nat → Int32} (hc_w : M w = some (.inr (6, [.int td, .int gd, .int bc, .int py, .int rf, .int lt, .int tl, .int fp, .ref cs, .ref bs, .ref tp]))) (hc_cs : M cs = some (.inl (kA 0, 8, .inl f))) : mCi l yX8_setCash cX8_setCash 3 (some .int) 1 0 0 D kA M T sz [.ref w, .int ps, .int n] (fun r u => (((0 ≤ ps.toInt ∧ ps.toInt ≤ 7 ∧ 0 ≤ n.toInt ∧ n.toInt ≤ 9999) ∧ r = 0 ∧ u.1 cs = some (.inl (kA 0, 8, .inl (upd f (Int32.toNatClampNeg ps) n)))) ∨ ((¬ (0 ≤ ps.toInt ∧ ps.toInt ≤ 7 ∧ 0 ≤ n.toInt ∧ n.toInt ≤ 9999)) ∧ r = 30 ∧ u.1 cs = some (.inl (kA 0, 8, .inl f)))) ∧ u.2 = T ∧ (∀ q, q ≠ cs → u.1 q = M q)) := by
  unfold mCi
  refine start_W (by decide) (Nat.le_of_ble_eq_true rfl) ?_
  intro p e s m below meth c ls hC hr hlk hnm hK hH hsz hl
  have hx := hC.1
  have hb := hC.2.1
  have hl : lv_has ls 3 [(0, .ref w), (1, .int ps), (2, .int n)] := hl
  have hF : ∀ q, q ≠ cs → M q = M q := fun q _ => rfl
  have n_w_cs : w ≠ cs := neM hc_w hc_cs (by simp)
  have n_cs_w : cs ≠ w := neM hc_cs hc_w (by simp)
  refine lv_iload_n hx hb dX8_setCash_0 rfl (lv_at hl 1 rfl) ?_
  refine goI hK hH (runSN (As := [.int ps]) (rest := []) hC hK hH (c_X9_isPerson) mlX8_94 ⟨⟨Nat.le_of_ble_eq_true rfl, Nat.le_of_ble_eq_true rfl⟩, Nat.le_of_ble_eq_true rfl, Nat.le_of_ble_eq_true rfl⟩ rfl hl.1 rfl (Nat.le_of_ble_eq_true rfl) dX8_setCash_1) (fun r3 M1 T2 H locs hP hz hH => ?_)
  try dsimp only at hP
  obtain ⟨(⟨c4, rfl⟩ | ⟨c5, rfl⟩), eT, eM⟩ := hP
  · skip
    have eT := eT.symm; subst eT
    have eM := eM.symm; subst eM
    have c4 : 0 ≤ ps.toInt ∧ ps.toInt ≤ 7 := c4
    refine jif_eq (tgt := 18) hx hb dX8_setCash_4 (by decide) (fun c6 => absurd c6 (by decide)) (fun c6 => ?_)
    refine lv_iload_n hx hb dX8_setCash_7 rfl (lv_at hl 2 rfl) ?_
    refine jif_lt (tgt := 18) hx hb dX8_setCash_8 (by decide) (fun c7 => ?_) (fun c7 => ?_)
    · skip
      have c7 : n.toInt < 0 := c7
      refine lv_bipush (v := 30) hx hb dX8_setCash_18 (by decide) ?_
      exact ret_i hC hr hlk hK hH (⟨Or.inr (⟨by omega, rfl, hc_cs⟩), rfl, hF⟩) (Nat.le_of_ble_eq_true rfl) (Nat.le_of_ble_eq_true rfl) dX8_setCash_20
    · skip
      have c7 : 0 ≤ n.toInt := c7
      refine lv_iload_n hx hb dX8_setCash_11 rfl (lv_at hl 2 rfl) ?_
      refine lv_sipush (v := 9999) hx hb dX8_setCash_12 (by decide) ?_
      refine jic_le (tgt := 21) hx hb dX8_setCash_15 (by decide) (fun c8 => ?_) (fun c8 => ?_)
      · skip
        have c8 : n.toInt ≤ 9999 := c8
        refine lv_aload_n hx hb dX8_setCash_21 rfl (lv_at hl 0 rfl) ?_
        refine xg hC hK hH flX8_9 hc_w rfl dX8_setCash_22 ?_
        refine lv_iload_n hx hb dX8_setCash_25 rfl (lv_at hl 1 rfl) ?_
        refine lv_iload_n hx hb dX8_setCash_26 rfl (lv_at hl 2 rfl) ?_
        refine yist (x := n) hC hK hH hc_cs (iIn (by omega) (by omega)) dX8_setCash_27 (fun H locs M9 hc_cs hfr hH => ?_)
        have hc_cs : M9 cs = some (.inl (kA 0, 8, .inl (upd f (Int32.toNatClampNeg ps) n))) := hc_cs
        have hc_w : M9 w = some (.inr (6, [.int td, .int gd, .int bc, .int py, .int rf, .int lt, .int tl, .int fp, .ref cs, .ref bs, .ref tp])) := (hfr w n_w_cs).trans hc_w
        have hF : ∀ q, q ≠ cs → M9 q = M q := fun q h0 => (hfr q h0).trans (hF q h0)
        refine lv_iconst (v := 0) hx hb dX8_setCash_28 (by decide) ?_
        exact ret_i hC hr hlk hK hH (⟨Or.inl (⟨by omega, rfl, hc_cs⟩), rfl, hF⟩) (Nat.le_of_ble_eq_true rfl) (Nat.le_of_ble_eq_true rfl) dX8_setCash_29
      · skip
        have c8 : 9999 < n.toInt := c8
        refine lv_bipush (v := 30) hx hb dX8_setCash_18 (by decide) ?_
        exact ret_i hC hr hlk hK hH (⟨Or.inr (⟨by omega, rfl, hc_cs⟩), rfl, hF⟩) (Nat.le_of_ble_eq_true rfl) (Nat.le_of_ble_eq_true rfl) dX8_setCash_20
  · skip
    have eT := eT.symm; subst eT
    have eM := eM.symm; subst eM
    have c5 : ¬ (0 ≤ ps.toInt ∧ ps.toInt ≤ 7) := c5
    refine jif_eq (tgt := 18) hx hb dX8_setCash_4 (by decide) (fun c10 => ?_) (fun c10 => absurd c10 (by decide))
    refine lv_bipush (v := 30) hx hb dX8_setCash_18 (by decide) ?_
    exact ret_i hC hr hlk hK hH (⟨Or.inr (⟨by omega, rfl, hc_cs⟩), rfl, hF⟩) (Nat.le_of_ble_eq_true rfl) (Nat.le_of_ble_eq_true rfl) dX8_setCash_20
end
section
theorem dX8_addBytes_0 : decode cX8_addBytes 0 = .ok (.aload_n 0, 1) := by decide +kernel
theorem dX8_addBytes_1 : decode cX8_addBytes 1 = .ok (.getfield 48, 3) := by decide +kernel
theorem dX8_addBytes_4 : decode cX8_addBytes 4 = .ok (.sipush 580, 3) := by decide +kernel
theorem dX8_addBytes_7 : decode cX8_addBytes 7 = .ok (.if_icmp .le 5, 3) := by decide +kernel
theorem dX8_addBytes_12 : decode cX8_addBytes 12 = .ok (.aload_n 0, 1) := by decide +kernel
theorem dX8_addBytes_13 : decode cX8_addBytes 13 = .ok (.iload_n 1, 1) := by decide +kernel
theorem dX8_addBytes_14 : decode cX8_addBytes 14 = .ok (.invokevirtual 64, 3) := by decide +kernel
theorem dX8_addBytes_17 : decode cX8_addBytes 17 = .ok (.aload_n 0, 1) := by decide +kernel
theorem dX8_addBytes_18 : decode cX8_addBytes 18 = .ok (.iload_n 2, 1) := by decide +kernel
theorem dX8_addBytes_19 : decode cX8_addBytes 19 = .ok (.invokevirtual 64, 3) := by decide +kernel
theorem dX8_addBytes_22 : decode cX8_addBytes 22 = .ok (.aload_n 0, 1) := by decide +kernel
theorem dX8_addBytes_23 : decode cX8_addBytes 23 = .ok (.iload_n 3, 1) := by decide +kernel
theorem dX8_addBytes_24 : decode cX8_addBytes 24 = .ok (.invokevirtual 64, 3) := by decide +kernel
theorem dX8_addBytes_27 : decode cX8_addBytes 27 = .ok (.aload_n 0, 1) := by decide +kernel
theorem dX8_addBytes_28 : decode cX8_addBytes 28 = .ok (.iload 4, 2) := by decide +kernel
theorem dX8_addBytes_30 : decode cX8_addBytes 30 = .ok (.invokevirtual 64, 3) := by decide +kernel
theorem dX8_addBytes_33 : decode cX8_addBytes 33 = .ok (.aload_n 0, 1) := by decide +kernel
theorem dX8_addBytes_34 : decode cX8_addBytes 34 = .ok (.iload 5, 2) := by decide +kernel
theorem dX8_addBytes_36 : decode cX8_addBytes 36 = .ok (.invokevirtual 64, 3) := by decide +kernel
theorem dX8_addBytes_39 : decode cX8_addBytes 39 = .ok (.aload_n 0, 1) := by decide +kernel
theorem dX8_addBytes_40 : decode cX8_addBytes 40 = .ok (.getfield 48, 3) := by decide +kernel
theorem dX8_addBytes_43 : decode cX8_addBytes 43 = .ok (.ireturn, 1) := by decide +kernel
theorem dX8_addNumber_0 : decode cX8_addNumber 0 = .ok (.bipush 24, 2) := by decide +kernel
theorem dX8_addNumber_2 : decode cX8_addNumber 2 = .ok (.istore_n 2, 1) := by decide +kernel
theorem dX8_addNumber_3 : decode cX8_addNumber 3 = .ok (.iload_n 2, 1) := by decide +kernel
theorem dX8_addNumber_4 : decode cX8_addNumber 4 = .ok (.ifCond .lt 32, 3) := by decide +kernel
theorem dX8_addNumber_7 : decode cX8_addNumber 7 = .ok (.aload_n 0, 1) := by decide +kernel
theorem dX8_addNumber_8 : decode cX8_addNumber 8 = .ok (.getfield 21, 3) := by decide +kernel
theorem dX8_addNumber_11 : decode cX8_addNumber 11 = .ok (.aload_n 0, 1) := by decide +kernel
theorem dX8_addNumber_12 : decode cX8_addNumber 12 = .ok (.getfield 48, 3) := by decide +kernel
theorem dX8_addNumber_15 : decode cX8_addNumber 15 = .ok (.iload_n 1, 1) := by decide +kernel
theorem dX8_addNumber_16 : decode cX8_addNumber 16 = .ok (.iload_n 2, 1) := by decide +kernel
theorem dX8_addNumber_17 : decode cX8_addNumber 17 = .ok (.ishr, 1) := by decide +kernel
theorem dX8_addNumber_18 : decode cX8_addNumber 18 = .ok (.i2b, 1) := by decide +kernel
theorem dX8_addNumber_19 : decode cX8_addNumber 19 = .ok (.bastore, 1) := by decide +kernel
theorem dX8_addNumber_20 : decode cX8_addNumber 20 = .ok (.aload_n 0, 1) := by decide +kernel
theorem dX8_addNumber_21 : decode cX8_addNumber 21 = .ok (.dup, 1) := by decide +kernel
theorem dX8_addNumber_22 : decode cX8_addNumber 22 = .ok (.getfield 48, 3) := by decide +kernel
theorem dX8_addNumber_25 : decode cX8_addNumber 25 = .ok (.iconst 1, 1) := by decide +kernel
theorem dX8_addNumber_26 : decode cX8_addNumber 26 = .ok (.iadd, 1) := by decide +kernel
theorem dX8_addNumber_27 : decode cX8_addNumber 27 = .ok (.putfield 48, 3) := by decide +kernel
theorem dX8_addNumber_30 : decode cX8_addNumber 30 = .ok (.iinc 2 (-8), 3) := by decide +kernel
theorem dX8_addNumber_33 : decode cX8_addNumber 33 = .ok (.goto (-30), 3) := by decide +kernel
theorem dX8_addNumber_36 : decode cX8_addNumber 36 = .ok (.return_, 1) := by decide +kernel
theorem dX8_begin_0 : decode cX8_begin 0 = .ok (.aload_n 0, 1) := by decide +kernel
theorem dX8_begin_1 : decode cX8_begin 1 = .ok (.iconst 0, 1) := by decide +kernel
theorem dX8_begin_2 : decode cX8_begin 2 = .ok (.putfield 29, 3) := by decide +kernel
theorem dX8_begin_5 : decode cX8_begin 5 = .ok (.aload_n 0, 1) := by decide +kernel
theorem dX8_begin_6 : decode cX8_begin 6 = .ok (.iconst 2, 1) := by decide +kernel
theorem dX8_begin_7 : decode cX8_begin 7 = .ok (.putfield 33, 3) := by decide +kernel
theorem dX8_begin_10 : decode cX8_begin 10 = .ok (.aload_n 0, 1) := by decide +kernel
theorem dX8_begin_11 : decode cX8_begin 11 = .ok (.iconst 0, 1) := by decide +kernel
theorem dX8_begin_12 : decode cX8_begin 12 = .ok (.putfield 36, 3) := by decide +kernel
theorem dX8_begin_15 : decode cX8_begin 15 = .ok (.aload_n 0, 1) := by decide +kernel
theorem dX8_begin_16 : decode cX8_begin 16 = .ok (.iconst 0, 1) := by decide +kernel
theorem dX8_begin_17 : decode cX8_begin 17 = .ok (.putfield 39, 3) := by decide +kernel
theorem dX8_begin_20 : decode cX8_begin 20 = .ok (.aload_n 0, 1) := by decide +kernel
theorem dX8_begin_21 : decode cX8_begin 21 = .ok (.iconst 0, 1) := by decide +kernel
theorem dX8_begin_22 : decode cX8_begin 22 = .ok (.putfield 42, 3) := by decide +kernel
theorem dX8_begin_25 : decode cX8_begin 25 = .ok (.aload_n 0, 1) := by decide +kernel
theorem dX8_begin_26 : decode cX8_begin 26 = .ok (.iconst 0, 1) := by decide +kernel
theorem dX8_begin_27 : decode cX8_begin 27 = .ok (.putfield 45, 3) := by decide +kernel
theorem dX8_begin_30 : decode cX8_begin 30 = .ok (.aload_n 0, 1) := by decide +kernel
theorem dX8_begin_31 : decode cX8_begin 31 = .ok (.iconst 0, 1) := by decide +kernel
theorem dX8_begin_32 : decode cX8_begin 32 = .ok (.putfield 48, 3) := by decide +kernel
theorem dX8_begin_35 : decode cX8_begin 35 = .ok (.aload_n 0, 1) := by decide +kernel
theorem dX8_begin_36 : decode cX8_begin 36 = .ok (.iconst (-1), 1) := by decide +kernel
theorem dX8_begin_37 : decode cX8_begin 37 = .ok (.putfield 51, 3) := by decide +kernel
theorem dX8_begin_40 : decode cX8_begin 40 = .ok (.iconst 0, 1) := by decide +kernel
theorem dX8_begin_41 : decode cX8_begin 41 = .ok (.istore_n 1, 1) := by decide +kernel
theorem dX8_begin_42 : decode cX8_begin 42 = .ok (.iload_n 1, 1) := by decide +kernel
theorem dX8_begin_43 : decode cX8_begin 43 = .ok (.bipush 8, 2) := by decide +kernel
theorem dX8_begin_45 : decode cX8_begin 45 = .ok (.if_icmp .ge 17, 3) := by decide +kernel
theorem dX8_begin_48 : decode cX8_begin 48 = .ok (.aload_n 0, 1) := by decide +kernel
theorem dX8_begin_49 : decode cX8_begin 49 = .ok (.getfield 9, 3) := by decide +kernel
theorem dX8_begin_52 : decode cX8_begin 52 = .ok (.iload_n 1, 1) := by decide +kernel
theorem dX8_begin_53 : decode cX8_begin 53 = .ok (.bipush 100, 2) := by decide +kernel
theorem dX8_begin_55 : decode cX8_begin 55 = .ok (.iastore, 1) := by decide +kernel
theorem dX8_begin_56 : decode cX8_begin 56 = .ok (.iinc 1 1, 3) := by decide +kernel
theorem dX8_begin_59 : decode cX8_begin 59 = .ok (.goto (-17), 3) := by decide +kernel
theorem dX8_begin_62 : decode cX8_begin 62 = .ok (.return_, 1) := by decide +kernel
theorem dX8_cashOfAll_0 : decode cX8_cashOfAll 0 = .ok (.iconst 0, 1) := by decide +kernel
theorem dX8_cashOfAll_1 : decode cX8_cashOfAll 1 = .ok (.istore_n 1, 1) := by decide +kernel
theorem dX8_cashOfAll_2 : decode cX8_cashOfAll 2 = .ok (.iconst 0, 1) := by decide +kernel
theorem dX8_cashOfAll_3 : decode cX8_cashOfAll 3 = .ok (.istore_n 2, 1) := by decide +kernel
theorem dX8_cashOfAll_4 : decode cX8_cashOfAll 4 = .ok (.iload_n 2, 1) := by decide +kernel
theorem dX8_cashOfAll_5 : decode cX8_cashOfAll 5 = .ok (.bipush 8, 2) := by decide +kernel
theorem dX8_cashOfAll_7 : decode cX8_cashOfAll 7 = .ok (.if_icmp .ge 18, 3) := by decide +kernel
theorem dX8_cashOfAll_10 : decode cX8_cashOfAll 10 = .ok (.iload_n 1, 1) := by decide +kernel
theorem dX8_cashOfAll_11 : decode cX8_cashOfAll 11 = .ok (.aload_n 0, 1) := by decide +kernel
theorem dX8_cashOfAll_12 : decode cX8_cashOfAll 12 = .ok (.getfield 9, 3) := by decide +kernel
theorem dX8_cashOfAll_15 : decode cX8_cashOfAll 15 = .ok (.iload_n 2, 1) := by decide +kernel
theorem dX8_cashOfAll_16 : decode cX8_cashOfAll 16 = .ok (.iaload, 1) := by decide +kernel
theorem dX8_cashOfAll_17 : decode cX8_cashOfAll 17 = .ok (.iadd, 1) := by decide +kernel
theorem dX8_cashOfAll_18 : decode cX8_cashOfAll 18 = .ok (.istore_n 1, 1) := by decide +kernel
theorem dX8_cashOfAll_19 : decode cX8_cashOfAll 19 = .ok (.iinc 2 1, 3) := by decide +kernel
theorem dX8_cashOfAll_22 : decode cX8_cashOfAll 22 = .ok (.goto (-18), 3) := by decide +kernel
theorem dX8_cashOfAll_25 : decode cX8_cashOfAll 25 = .ok (.iload_n 1, 1) := by decide +kernel
theorem dX8_cashOfAll_26 : decode cX8_cashOfAll 26 = .ok (.ireturn, 1) := by decide +kernel
theorem dX8_dishonouredBills_0 : decode cX8_dishonouredBills 0 = .ok (.iconst 0, 1) := by decide +kernel
theorem dX8_dishonouredBills_1 : decode cX8_dishonouredBills 1 = .ok (.istore_n 1, 1) := by decide +kernel
theorem dX8_dishonouredBills_2 : decode cX8_dishonouredBills 2 = .ok (.iconst 0, 1) := by decide +kernel
theorem dX8_dishonouredBills_3 : decode cX8_dishonouredBills 3 = .ok (.istore_n 2, 1) := by decide +kernel
theorem dX8_dishonouredBills_4 : decode cX8_dishonouredBills 4 = .ok (.iload_n 2, 1) := by decide +kernel
theorem dX8_dishonouredBills_5 : decode cX8_dishonouredBills 5 = .ok (.aload_n 0, 1) := by decide +kernel
theorem dX8_dishonouredBills_6 : decode cX8_dishonouredBills 6 = .ok (.getfield 36, 3) := by decide +kernel
theorem dX8_dishonouredBills_9 : decode cX8_dishonouredBills 9 = .ok (.if_icmp .ge 33, 3) := by decide +kernel
theorem dX8_dishonouredBills_42 : decode cX8_dishonouredBills 42 = .ok (.iload_n 1, 1) := by decide +kernel
theorem dX8_dishonouredBills_43 : decode cX8_dishonouredBills 43 = .ok (.ireturn, 1) := by decide +kernel
theorem dX8_doneBills_0 : decode cX8_doneBills 0 = .ok (.iconst 0, 1) := by decide +kernel
theorem dX8_doneBills_1 : decode cX8_doneBills 1 = .ok (.istore_n 1, 1) := by decide +kernel
theorem dX8_doneBills_2 : decode cX8_doneBills 2 = .ok (.iconst 0, 1) := by decide +kernel
theorem dX8_doneBills_3 : decode cX8_doneBills 3 = .ok (.istore_n 2, 1) := by decide +kernel
theorem dX8_doneBills_4 : decode cX8_doneBills 4 = .ok (.iload_n 2, 1) := by decide +kernel
theorem dX8_doneBills_5 : decode cX8_doneBills 5 = .ok (.aload_n 0, 1) := by decide +kernel
theorem dX8_doneBills_6 : decode cX8_doneBills 6 = .ok (.getfield 36, 3) := by decide +kernel
theorem dX8_doneBills_9 : decode cX8_doneBills 9 = .ok (.if_icmp .ge 24, 3) := by decide +kernel
theorem dX8_doneBills_33 : decode cX8_doneBills 33 = .ok (.iload_n 1, 1) := by decide +kernel
theorem dX8_doneBills_34 : decode cX8_doneBills 34 = .ok (.ireturn, 1) := by decide +kernel
end
section
theorem flX8_21 : FL RX8 21 6 10 (.array .byte) true := ⟨RX8, TX8, 11, tyX8, rfl, by decide, TB_t 266 (by decide +kernel) rfl, inX8, tyX8_ok, nmX8, rfl, rfl⟩
theorem flX8_39 : FL RX8 39 6 3 .int false := ⟨RX8, TX8, 11, tyX8, rfl, by decide, TB_t 252 (by decide +kernel) rfl, inX8, tyX8_ok, nmX8, rfl, rfl⟩
theorem flX8_48 : FL RX8 48 6 6 .int false := ⟨RX8, TX8, 11, tyX8, rfl, by decide, TB_t 258 (by decide +kernel) rfl, inX8, tyX8_ok, nmX8, rfl, rfl⟩
theorem flX8_51 : FL RX8 51 6 7 .int false := ⟨RX8, TX8, 11, tyX8, rfl, by decide, TB_t 260 (by decide +kernel) rfl, inX8, tyX8_ok, nmX8, rfl, rfl⟩
theorem mlX8_64 : MLV RX8 64 yX8_addNumber cX8_addNumber 3 none 1 := ⟨TB_t 397 (by decide +kernel) rfl, TB_t 400 (by decide +kernel) rfl, TB_t 2 (by decide +kernel) rfl, ⟨by decide, by decide, by decide +kernel⟩, TB_t 399 (by decide +kernel) rfl, TB_s 0 (by decide +kernel) rfl⟩
end
section
set_option maxHeartbeats 4000000 in
set_option maxRecDepth 100000 in
theorem c_X8_begin {l : Launch} {D : va_G} {kA : Nat → ClassId} {M : mM} {T : mT} {sz : Nat} {w cs bs tp : Nat} {td gd bc py rf lt tl fp : Int32} {f : Nat → Int32} (hc_w : M w = some (.inr (6, [.int td, .int gd, .int bc, .int py, .int rf, .int lt, .int tl, .int fp, .ref cs, .ref bs, .ref tp]))) (hc_cs : M cs = some (.inl (kA 0, 8, .inl f))) : mCv l yX8_begin cX8_begin 2 0 0 0 D kA M T sz [.ref w] (fun u => (u.1 w = some (.inr (6, [.int 0, .int 2, .int 0, .int 0, .int 0, .int 0, .int 0, .int (-1), .ref cs, .ref bs, .ref tp])) ∧ u.1 cs = some (.inl (kA 0, 8, .inl (c100 f)))) ∧ u.2 = T ∧ (∀ q, q ≠ w → q ≠ cs → u.1 q = M q)) := by
  unfold mCv
  refine start_W (by decide) (Nat.le_of_ble_eq_true rfl) ?_
  intro p e s m below meth c ls hC hr hlk hnm hK hH hsz hl
  have hx := hC.1
  have hb := hC.2.1
  have hl : lv_has ls 2 [(0, .ref w)] := hl
  have hF : ∀ q, q ≠ w → q ≠ cs → M q = M q := fun q _ _ => rfl
  have n_w_cs : w ≠ cs := neM hc_w hc_cs (by simp)
  have n_cs_w : cs ≠ w := neM hc_cs hc_w (by simp)
  refine lv_aload_n hx hb dX8_begin_0 rfl (lv_at hl 0 rfl) ?_
  refine lv_iconst (v := 0) hx hb dX8_begin_1 (by decide) ?_
  refine yp (v := .int 0) hC hK hH flX8_29 hc_w rfl rfl (Nat.le_of_ble_eq_true rfl) dX8_begin_2 (fun H locs M1 hc_w hfr hH => ?_)
  have hc_w : M1 w = some (.inr (6, [.int 0, .int gd, .int bc, .int py, .int rf, .int lt, .int tl, .int fp, .ref cs, .ref bs, .ref tp])) := hc_w
  have hc_cs : M1 cs = some (.inl (kA 0, 8, .inl f)) := (hfr cs n_cs_w).trans hc_cs
  have hF : ∀ q, q ≠ w → q ≠ cs → M1 q = M q := fun q h0 h1 => (hfr q h0).trans (hF q h0 h1)
  refine lv_aload_n hx hb dX8_begin_5 rfl (lv_at hl 0 rfl) ?_
  refine lv_iconst (v := 2) hx hb dX8_begin_6 (by decide) ?_
  refine yp (v := .int 2) hC hK hH flX8_33 hc_w rfl rfl (Nat.le_of_ble_eq_true rfl) dX8_begin_7 (fun H locs M2 hc_w hfr hH => ?_)
  have hc_w : M2 w = some (.inr (6, [.int 0, .int 2, .int bc, .int py, .int rf, .int lt, .int tl, .int fp, .ref cs, .ref bs, .ref tp])) := hc_w
  have hc_cs : M2 cs = some (.inl (kA 0, 8, .inl f)) := (hfr cs n_cs_w).trans hc_cs
  have hF : ∀ q, q ≠ w → q ≠ cs → M2 q = M q := fun q h0 h1 => (hfr q h0).trans (hF q h0 h1)
  refine lv_aload_n hx hb dX8_begin_10 rfl (lv_at hl 0 rfl) ?_
  refine lv_iconst (v := 0) hx hb dX8_begin_11 (by decide) ?_
  refine yp (v := .int 0) hC hK hH flX8_36 hc_w rfl rfl (Nat.le_of_ble_eq_true rfl) dX8_begin_12 (fun H locs M3 hc_w hfr hH => ?_)
  have hc_w : M3 w = some (.inr (6, [.int 0, .int 2, .int 0, .int py, .int rf, .int lt, .int tl, .int fp, .ref cs, .ref bs, .ref tp])) := hc_w
  have hc_cs : M3 cs = some (.inl (kA 0, 8, .inl f)) := (hfr cs n_cs_w).trans hc_cs
  have hF : ∀ q, q ≠ w → q ≠ cs → M3 q = M q := fun q h0 h1 => (hfr q h0).trans (hF q h0 h1)
  refine lv_aload_n hx hb dX8_begin_15 rfl (lv_at hl 0 rfl) ?_
  refine lv_iconst (v := 0) hx hb dX8_begin_16 (by decide) ?_
  refine yp (v := .int 0) hC hK hH flX8_39 hc_w rfl rfl (Nat.le_of_ble_eq_true rfl) dX8_begin_17 (fun H locs M4 hc_w hfr hH => ?_)
  have hc_w : M4 w = some (.inr (6, [.int 0, .int 2, .int 0, .int 0, .int rf, .int lt, .int tl, .int fp, .ref cs, .ref bs, .ref tp])) := hc_w
  have hc_cs : M4 cs = some (.inl (kA 0, 8, .inl f)) := (hfr cs n_cs_w).trans hc_cs
  have hF : ∀ q, q ≠ w → q ≠ cs → M4 q = M q := fun q h0 h1 => (hfr q h0).trans (hF q h0 h1)
  refine lv_aload_n hx hb dX8_begin_20 rfl (lv_at hl 0 rfl) ?_
  refine lv_iconst (v := 0) hx hb dX8_begin_21 (by decide) ?_
  refine yp (v := .int 0) hC hK hH flX8_42 hc_w rfl rfl (Nat.le_of_ble_eq_true rfl) dX8_begin_22 (fun H locs M5 hc_w hfr hH => ?_)
  have hc_w : M5 w = some (.inr (6, [.int 0, .int 2, .int 0, .int 0, .int 0, .int lt, .int tl, .int fp, .ref cs, .ref bs, .ref tp])) := hc_w
  have hc_cs : M5 cs = some (.inl (kA 0, 8, .inl f)) := (hfr cs n_cs_w).trans hc_cs
  have hF : ∀ q, q ≠ w → q ≠ cs → M5 q = M q := fun q h0 h1 => (hfr q h0).trans (hF q h0 h1)
  refine lv_aload_n hx hb dX8_begin_25 rfl (lv_at hl 0 rfl) ?_
  refine lv_iconst (v := 0) hx hb dX8_begin_26 (by decide) ?_
  refine yp (v := .int 0) hC hK hH flX8_45 hc_w rfl rfl (Nat.le_of_ble_eq_true rfl) dX8_begin_27 (fun H locs M6 hc_w hfr hH => ?_)
  have hc_w : M6 w = some (.inr (6, [.int 0, .int 2, .int 0, .int 0, .int 0, .int 0, .int tl, .int fp, .ref cs, .ref bs, .ref tp])) := hc_w
  have hc_cs : M6 cs = some (.inl (kA 0, 8, .inl f)) := (hfr cs n_cs_w).trans hc_cs
  have hF : ∀ q, q ≠ w → q ≠ cs → M6 q = M q := fun q h0 h1 => (hfr q h0).trans (hF q h0 h1)
  refine lv_aload_n hx hb dX8_begin_30 rfl (lv_at hl 0 rfl) ?_
  refine lv_iconst (v := 0) hx hb dX8_begin_31 (by decide) ?_
  refine yp (v := .int 0) hC hK hH flX8_48 hc_w rfl rfl (Nat.le_of_ble_eq_true rfl) dX8_begin_32 (fun H locs M7 hc_w hfr hH => ?_)
  have hc_w : M7 w = some (.inr (6, [.int 0, .int 2, .int 0, .int 0, .int 0, .int 0, .int 0, .int fp, .ref cs, .ref bs, .ref tp])) := hc_w
  have hc_cs : M7 cs = some (.inl (kA 0, 8, .inl f)) := (hfr cs n_cs_w).trans hc_cs
  have hF : ∀ q, q ≠ w → q ≠ cs → M7 q = M q := fun q h0 h1 => (hfr q h0).trans (hF q h0 h1)
  refine lv_aload_n hx hb dX8_begin_35 rfl (lv_at hl 0 rfl) ?_
  refine lv_iconst (v := -1) hx hb dX8_begin_36 (by decide) ?_
  refine yp (v := .int (-1)) hC hK hH flX8_51 hc_w rfl rfl (Nat.le_of_ble_eq_true rfl) dX8_begin_37 (fun H locs M8 hc_w hfr hH => ?_)
  have hc_w : M8 w = some (.inr (6, [.int 0, .int 2, .int 0, .int 0, .int 0, .int 0, .int 0, .int (-1), .ref cs, .ref bs, .ref tp])) := hc_w
  have hc_cs : M8 cs = some (.inl (kA 0, 8, .inl f)) := (hfr cs n_cs_w).trans hc_cs
  have hF : ∀ q, q ≠ w → q ≠ cs → M8 q = M q := fun q h0 h1 => (hfr q h0).trans (hF q h0 h1)
  refine lv_iconst (v := 0) hx hb dX8_begin_40 (by decide) ?_
  refine lv_istore_n (lv' := [(1, .int 0), (0, .ref w)]) hx hb dX8_begin_41 rfl hl (by decide) rfl (fun ls hl => ?_)
  refine lv_iload_n hx hb dX8_begin_42 rfl (lv_at hl 0 rfl) ?_
  refine lv_bipush (v := 8) hx hb dX8_begin_43 (by decide) ?_
  refine jic_ge (tgt := 62) hx hb dX8_begin_45 (by decide) (fun c9 => absurd c9 (by decide)) (fun c9 => ?_)
  refine lv_aload_n hx hb dX8_begin_48 rfl (lv_at hl 1 rfl) ?_
  refine xg hC hK hH flX8_9 hc_w rfl dX8_begin_49 ?_
  refine lv_iload_n hx hb dX8_begin_52 rfl (lv_at hl 0 rfl) ?_
  refine lv_bipush (v := 100) hx hb dX8_begin_53 (by decide) ?_
  refine yist (x := 100) hC hK hH hc_cs (iIn (by decide) (by decide)) dX8_begin_55 (fun H locs M10 hc_cs hfr hH => ?_)
  have hc_cs : M10 cs = some (.inl (kA 0, 8, .inl (upd f (Int32.toNatClampNeg 0) 100))) := hc_cs
  have hc_w : M10 w = some (.inr (6, [.int 0, .int 2, .int 0, .int 0, .int 0, .int 0, .int 0, .int (-1), .ref cs, .ref bs, .ref tp])) := (hfr w n_w_cs).trans hc_w
  have hF : ∀ q, q ≠ w → q ≠ cs → M10 q = M q := fun q h0 h1 => (hfr q h1).trans (hF q h0 h1)
  refine lv_iinc (v := 1) (lv' := [(1, .int 1), (0, .ref w)]) hx hb dX8_begin_56 hl (k := 0) rfl (by decide) (by decide) rfl (fun ls hl => ?_)
  refine lv_goto (tgt := 42) hx hb dX8_begin_59 (by decide) ?_
  refine lv_iload_n hx hb dX8_begin_42 rfl (lv_at hl 0 rfl) ?_
  refine lv_bipush (v := 8) hx hb dX8_begin_43 (by decide) ?_
  refine jic_ge (tgt := 62) hx hb dX8_begin_45 (by decide) (fun c11 => absurd c11 (by decide)) (fun c11 => ?_)
  refine lv_aload_n hx hb dX8_begin_48 rfl (lv_at hl 1 rfl) ?_
  refine xg hC hK hH flX8_9 hc_w rfl dX8_begin_49 ?_
  refine lv_iload_n hx hb dX8_begin_52 rfl (lv_at hl 0 rfl) ?_
  refine lv_bipush (v := 100) hx hb dX8_begin_53 (by decide) ?_
  refine yist (x := 100) hC hK hH hc_cs (iIn (by decide) (by decide)) dX8_begin_55 (fun H locs M12 hc_cs hfr hH => ?_)
  have hc_cs : M12 cs = some (.inl (kA 0, 8, .inl (upd (upd f (Int32.toNatClampNeg 0) 100) (Int32.toNatClampNeg 1) 100))) := hc_cs
  have hc_w : M12 w = some (.inr (6, [.int 0, .int 2, .int 0, .int 0, .int 0, .int 0, .int 0, .int (-1), .ref cs, .ref bs, .ref tp])) := (hfr w n_w_cs).trans hc_w
  have hF : ∀ q, q ≠ w → q ≠ cs → M12 q = M q := fun q h0 h1 => (hfr q h1).trans (hF q h0 h1)
  refine lv_iinc (v := 2) (lv' := [(1, .int 2), (0, .ref w)]) hx hb dX8_begin_56 hl (k := 0) rfl (by decide) (by decide) rfl (fun ls hl => ?_)
  refine lv_goto (tgt := 42) hx hb dX8_begin_59 (by decide) ?_
  refine lv_iload_n hx hb dX8_begin_42 rfl (lv_at hl 0 rfl) ?_
  refine lv_bipush (v := 8) hx hb dX8_begin_43 (by decide) ?_
  refine jic_ge (tgt := 62) hx hb dX8_begin_45 (by decide) (fun c13 => absurd c13 (by decide)) (fun c13 => ?_)
  refine lv_aload_n hx hb dX8_begin_48 rfl (lv_at hl 1 rfl) ?_
  refine xg hC hK hH flX8_9 hc_w rfl dX8_begin_49 ?_
  refine lv_iload_n hx hb dX8_begin_52 rfl (lv_at hl 0 rfl) ?_
  refine lv_bipush (v := 100) hx hb dX8_begin_53 (by decide) ?_
  refine yist (x := 100) hC hK hH hc_cs (iIn (by decide) (by decide)) dX8_begin_55 (fun H locs M14 hc_cs hfr hH => ?_)
  have hc_cs : M14 cs = some (.inl (kA 0, 8, .inl (upd (upd (upd f (Int32.toNatClampNeg 0) 100) (Int32.toNatClampNeg 1) 100) (Int32.toNatClampNeg 2) 100))) := hc_cs
  have hc_w : M14 w = some (.inr (6, [.int 0, .int 2, .int 0, .int 0, .int 0, .int 0, .int 0, .int (-1), .ref cs, .ref bs, .ref tp])) := (hfr w n_w_cs).trans hc_w
  have hF : ∀ q, q ≠ w → q ≠ cs → M14 q = M q := fun q h0 h1 => (hfr q h1).trans (hF q h0 h1)
  refine lv_iinc (v := 3) (lv' := [(1, .int 3), (0, .ref w)]) hx hb dX8_begin_56 hl (k := 0) rfl (by decide) (by decide) rfl (fun ls hl => ?_)
  refine lv_goto (tgt := 42) hx hb dX8_begin_59 (by decide) ?_
  refine lv_iload_n hx hb dX8_begin_42 rfl (lv_at hl 0 rfl) ?_
  refine lv_bipush (v := 8) hx hb dX8_begin_43 (by decide) ?_
  refine jic_ge (tgt := 62) hx hb dX8_begin_45 (by decide) (fun c15 => absurd c15 (by decide)) (fun c15 => ?_)
  refine lv_aload_n hx hb dX8_begin_48 rfl (lv_at hl 1 rfl) ?_
  refine xg hC hK hH flX8_9 hc_w rfl dX8_begin_49 ?_
  refine lv_iload_n hx hb dX8_begin_52 rfl (lv_at hl 0 rfl) ?_
  refine lv_bipush (v := 100) hx hb dX8_begin_53 (by decide) ?_
  refine yist (x := 100) hC hK hH hc_cs (iIn (by decide) (by decide)) dX8_begin_55 (fun H locs M16 hc_cs hfr hH => ?_)
  have hc_cs : M16 cs = some (.inl (kA 0, 8, .inl (upd (upd (upd (upd f (Int32.toNatClampNeg 0) 100) (Int32.toNatClampNeg 1) 100) (Int32.toNatClampNeg 2) 100) (Int32.toNatClampNeg 3) 100))) := hc_cs
  have hc_w : M16 w = some (.inr (6, [.int 0, .int 2, .int 0, .int 0, .int 0, .int 0, .int 0, .int (-1), .ref cs, .ref bs, .ref tp])) := (hfr w n_w_cs).trans hc_w
  have hF : ∀ q, q ≠ w → q ≠ cs → M16 q = M q := fun q h0 h1 => (hfr q h1).trans (hF q h0 h1)
  refine lv_iinc (v := 4) (lv' := [(1, .int 4), (0, .ref w)]) hx hb dX8_begin_56 hl (k := 0) rfl (by decide) (by decide) rfl (fun ls hl => ?_)
  refine lv_goto (tgt := 42) hx hb dX8_begin_59 (by decide) ?_
  refine lv_iload_n hx hb dX8_begin_42 rfl (lv_at hl 0 rfl) ?_
  refine lv_bipush (v := 8) hx hb dX8_begin_43 (by decide) ?_
  refine jic_ge (tgt := 62) hx hb dX8_begin_45 (by decide) (fun c17 => absurd c17 (by decide)) (fun c17 => ?_)
  refine lv_aload_n hx hb dX8_begin_48 rfl (lv_at hl 1 rfl) ?_
  refine xg hC hK hH flX8_9 hc_w rfl dX8_begin_49 ?_
  refine lv_iload_n hx hb dX8_begin_52 rfl (lv_at hl 0 rfl) ?_
  refine lv_bipush (v := 100) hx hb dX8_begin_53 (by decide) ?_
  refine yist (x := 100) hC hK hH hc_cs (iIn (by decide) (by decide)) dX8_begin_55 (fun H locs M18 hc_cs hfr hH => ?_)
  have hc_cs : M18 cs = some (.inl (kA 0, 8, .inl (upd (upd (upd (upd (upd f (Int32.toNatClampNeg 0) 100) (Int32.toNatClampNeg 1) 100) (Int32.toNatClampNeg 2) 100) (Int32.toNatClampNeg 3) 100) (Int32.toNatClampNeg 4) 100))) := hc_cs
  have hc_w : M18 w = some (.inr (6, [.int 0, .int 2, .int 0, .int 0, .int 0, .int 0, .int 0, .int (-1), .ref cs, .ref bs, .ref tp])) := (hfr w n_w_cs).trans hc_w
  have hF : ∀ q, q ≠ w → q ≠ cs → M18 q = M q := fun q h0 h1 => (hfr q h1).trans (hF q h0 h1)
  refine lv_iinc (v := 5) (lv' := [(1, .int 5), (0, .ref w)]) hx hb dX8_begin_56 hl (k := 0) rfl (by decide) (by decide) rfl (fun ls hl => ?_)
  refine lv_goto (tgt := 42) hx hb dX8_begin_59 (by decide) ?_
  refine lv_iload_n hx hb dX8_begin_42 rfl (lv_at hl 0 rfl) ?_
  refine lv_bipush (v := 8) hx hb dX8_begin_43 (by decide) ?_
  refine jic_ge (tgt := 62) hx hb dX8_begin_45 (by decide) (fun c19 => absurd c19 (by decide)) (fun c19 => ?_)
  refine lv_aload_n hx hb dX8_begin_48 rfl (lv_at hl 1 rfl) ?_
  refine xg hC hK hH flX8_9 hc_w rfl dX8_begin_49 ?_
  refine lv_iload_n hx hb dX8_begin_52 rfl (lv_at hl 0 rfl) ?_
  refine lv_bipush (v := 100) hx hb dX8_begin_53 (by decide) ?_
  refine yist (x := 100) hC hK hH hc_cs (iIn (by decide) (by decide)) dX8_begin_55 (fun H locs M20 hc_cs hfr hH => ?_)
  have hc_cs : M20 cs = some (.inl (kA 0, 8, .inl (upd (upd (upd (upd (upd (upd f (Int32.toNatClampNeg 0) 100) (Int32.toNatClampNeg 1) 100) (Int32.toNatClampNeg 2) 100) (Int32.toNatClampNeg 3) 100) (Int32.toNatClampNeg 4) 100) (Int32.toNatClampNeg 5) 100))) := hc_cs
  have hc_w : M20 w = some (.inr (6, [.int 0, .int 2, .int 0, .int 0, .int 0, .int 0, .int 0, .int (-1), .ref cs, .ref bs, .ref tp])) := (hfr w n_w_cs).trans hc_w
  have hF : ∀ q, q ≠ w → q ≠ cs → M20 q = M q := fun q h0 h1 => (hfr q h1).trans (hF q h0 h1)
  refine lv_iinc (v := 6) (lv' := [(1, .int 6), (0, .ref w)]) hx hb dX8_begin_56 hl (k := 0) rfl (by decide) (by decide) rfl (fun ls hl => ?_)
  refine lv_goto (tgt := 42) hx hb dX8_begin_59 (by decide) ?_
  refine lv_iload_n hx hb dX8_begin_42 rfl (lv_at hl 0 rfl) ?_
  refine lv_bipush (v := 8) hx hb dX8_begin_43 (by decide) ?_
  refine jic_ge (tgt := 62) hx hb dX8_begin_45 (by decide) (fun c21 => absurd c21 (by decide)) (fun c21 => ?_)
  refine lv_aload_n hx hb dX8_begin_48 rfl (lv_at hl 1 rfl) ?_
  refine xg hC hK hH flX8_9 hc_w rfl dX8_begin_49 ?_
  refine lv_iload_n hx hb dX8_begin_52 rfl (lv_at hl 0 rfl) ?_
  refine lv_bipush (v := 100) hx hb dX8_begin_53 (by decide) ?_
  refine yist (x := 100) hC hK hH hc_cs (iIn (by decide) (by decide)) dX8_begin_55 (fun H locs M22 hc_cs hfr hH => ?_)
  have hc_cs : M22 cs = some (.inl (kA 0, 8, .inl (upd (upd (upd (upd (upd (upd (upd f (Int32.toNatClampNeg 0) 100) (Int32.toNatClampNeg 1) 100) (Int32.toNatClampNeg 2) 100) (Int32.toNatClampNeg 3) 100) (Int32.toNatClampNeg 4) 100) (Int32.toNatClampNeg 5) 100) (Int32.toNatClampNeg 6) 100))) := hc_cs
  have hc_w : M22 w = some (.inr (6, [.int 0, .int 2, .int 0, .int 0, .int 0, .int 0, .int 0, .int (-1), .ref cs, .ref bs, .ref tp])) := (hfr w n_w_cs).trans hc_w
  have hF : ∀ q, q ≠ w → q ≠ cs → M22 q = M q := fun q h0 h1 => (hfr q h1).trans (hF q h0 h1)
  refine lv_iinc (v := 7) (lv' := [(1, .int 7), (0, .ref w)]) hx hb dX8_begin_56 hl (k := 0) rfl (by decide) (by decide) rfl (fun ls hl => ?_)
  refine lv_goto (tgt := 42) hx hb dX8_begin_59 (by decide) ?_
  refine lv_iload_n hx hb dX8_begin_42 rfl (lv_at hl 0 rfl) ?_
  refine lv_bipush (v := 8) hx hb dX8_begin_43 (by decide) ?_
  refine jic_ge (tgt := 62) hx hb dX8_begin_45 (by decide) (fun c23 => absurd c23 (by decide)) (fun c23 => ?_)
  refine lv_aload_n hx hb dX8_begin_48 rfl (lv_at hl 1 rfl) ?_
  refine xg hC hK hH flX8_9 hc_w rfl dX8_begin_49 ?_
  refine lv_iload_n hx hb dX8_begin_52 rfl (lv_at hl 0 rfl) ?_
  refine lv_bipush (v := 100) hx hb dX8_begin_53 (by decide) ?_
  refine yist (x := 100) hC hK hH hc_cs (iIn (by decide) (by decide)) dX8_begin_55 (fun H locs M24 hc_cs hfr hH => ?_)
  have hc_cs : M24 cs = some (.inl (kA 0, 8, .inl (upd (upd (upd (upd (upd (upd (upd (upd f (Int32.toNatClampNeg 0) 100) (Int32.toNatClampNeg 1) 100) (Int32.toNatClampNeg 2) 100) (Int32.toNatClampNeg 3) 100) (Int32.toNatClampNeg 4) 100) (Int32.toNatClampNeg 5) 100) (Int32.toNatClampNeg 6) 100) (Int32.toNatClampNeg 7) 100))) := hc_cs
  have hc_w : M24 w = some (.inr (6, [.int 0, .int 2, .int 0, .int 0, .int 0, .int 0, .int 0, .int (-1), .ref cs, .ref bs, .ref tp])) := (hfr w n_w_cs).trans hc_w
  have hF : ∀ q, q ≠ w → q ≠ cs → M24 q = M q := fun q h0 h1 => (hfr q h1).trans (hF q h0 h1)
  refine lv_iinc (v := 8) (lv' := [(1, .int 8), (0, .ref w)]) hx hb dX8_begin_56 hl (k := 0) rfl (by decide) (by decide) rfl (fun ls hl => ?_)
  refine lv_goto (tgt := 42) hx hb dX8_begin_59 (by decide) ?_
  refine lv_iload_n hx hb dX8_begin_42 rfl (lv_at hl 0 rfl) ?_
  refine lv_bipush (v := 8) hx hb dX8_begin_43 (by decide) ?_
  refine jic_ge (tgt := 62) hx hb dX8_begin_45 (by decide) (fun c25 => ?_) (fun c25 => absurd c25 (by decide))
  exact ret_v hC hr hlk hK hH (⟨⟨hc_w, hc_cs⟩, rfl, hF⟩) (Nat.le_of_ble_eq_true rfl) (Nat.le_of_ble_eq_true rfl) dX8_begin_62
set_option maxHeartbeats 4000000 in
set_option maxRecDepth 100000 in
theorem c_X8_cashOfAll {l : Launch} {D : va_G} {kA : Nat → ClassId} {M : mM} {T : mT} {sz : Nat} {w cs bs tp : Nat} {td gd bc py rf lt tl fp : Int32} {f : Nat → Int32} (hc_w : M w = some (.inr (6, [.int td, .int gd, .int bc, .int py, .int rf, .int lt, .int tl, .int fp, .ref cs, .ref bs, .ref tp]))) (hc_cs : M cs = some (.inl (kA 0, 8, .inl (c100 f)))) : mCi l yX8_cashOfAll cX8_cashOfAll 3 (some .int) 0 0 0 D kA M T sz [.ref w] (fun r u => (r = 800) ∧ u.2 = T ∧ u.1 = M) := by
  unfold mCi
  refine start_W (by decide) (Nat.le_of_ble_eq_true rfl) ?_
  intro p e s m below meth c ls hC hr hlk hnm hK hH hsz hl
  have hx := hC.1
  have hb := hC.2.1
  have hl : lv_has ls 3 [(0, .ref w)] := hl
  have n_w_cs : w ≠ cs := neM hc_w hc_cs (by simp)
  have n_cs_w : cs ≠ w := neM hc_cs hc_w (by simp)
  refine lv_iconst (v := 0) hx hb dX8_cashOfAll_0 (by decide) ?_
  refine lv_istore_n (lv' := [(1, .int 0), (0, .ref w)]) hx hb dX8_cashOfAll_1 rfl hl (by decide) rfl (fun ls hl => ?_)
  refine lv_iconst (v := 0) hx hb dX8_cashOfAll_2 (by decide) ?_
  refine lv_istore_n (lv' := [(2, .int 0), (1, .int 0), (0, .ref w)]) hx hb dX8_cashOfAll_3 rfl hl (by decide) rfl (fun ls hl => ?_)
  refine lv_iload_n hx hb dX8_cashOfAll_4 rfl (lv_at hl 0 rfl) ?_
  refine lv_bipush (v := 8) hx hb dX8_cashOfAll_5 (by decide) ?_
  refine jic_ge (tgt := 25) hx hb dX8_cashOfAll_7 (by decide) (fun c1 => absurd c1 (by decide)) (fun c1 => ?_)
  refine lv_iload_n hx hb dX8_cashOfAll_10 rfl (lv_at hl 1 rfl) ?_
  refine lv_aload_n hx hb dX8_cashOfAll_11 rfl (lv_at hl 2 rfl) ?_
  refine xg hC hK hH flX8_9 hc_w rfl dX8_cashOfAll_12 ?_
  refine lv_iload_n hx hb dX8_cashOfAll_15 rfl (lv_at hl 0 rfl) ?_
  refine xild hC hK hH hc_cs (iIn (by decide) (by decide)) dX8_cashOfAll_16 ?_
  refine lv_cst (v := 100) (c100_at _ (by decide)) ?_
  refine lv_iadd hx hb dX8_cashOfAll_17 ?_
  refine lv_cst (v := 100) (by decide) ?_
  refine lv_istore_n (lv' := [(1, .int 100), (2, .int 0), (0, .ref w)]) hx hb dX8_cashOfAll_18 rfl hl (by decide) rfl (fun ls hl => ?_)
  refine lv_iinc (v := 1) (lv' := [(2, .int 1), (1, .int 100), (0, .ref w)]) hx hb dX8_cashOfAll_19 hl (k := 1) rfl (by decide) (by decide) rfl (fun ls hl => ?_)
  refine lv_goto (tgt := 4) hx hb dX8_cashOfAll_22 (by decide) ?_
  refine lv_iload_n hx hb dX8_cashOfAll_4 rfl (lv_at hl 0 rfl) ?_
  refine lv_bipush (v := 8) hx hb dX8_cashOfAll_5 (by decide) ?_
  refine jic_ge (tgt := 25) hx hb dX8_cashOfAll_7 (by decide) (fun c2 => absurd c2 (by decide)) (fun c2 => ?_)
  refine lv_iload_n hx hb dX8_cashOfAll_10 rfl (lv_at hl 1 rfl) ?_
  refine lv_aload_n hx hb dX8_cashOfAll_11 rfl (lv_at hl 2 rfl) ?_
  refine xg hC hK hH flX8_9 hc_w rfl dX8_cashOfAll_12 ?_
  refine lv_iload_n hx hb dX8_cashOfAll_15 rfl (lv_at hl 0 rfl) ?_
  refine xild hC hK hH hc_cs (iIn (by decide) (by decide)) dX8_cashOfAll_16 ?_
  refine lv_cst (v := 100) (c100_at _ (by decide)) ?_
  refine lv_iadd hx hb dX8_cashOfAll_17 ?_
  refine lv_cst (v := 200) (by decide) ?_
  refine lv_istore_n (lv' := [(1, .int 200), (2, .int 1), (0, .ref w)]) hx hb dX8_cashOfAll_18 rfl hl (by decide) rfl (fun ls hl => ?_)
  refine lv_iinc (v := 2) (lv' := [(2, .int 2), (1, .int 200), (0, .ref w)]) hx hb dX8_cashOfAll_19 hl (k := 1) rfl (by decide) (by decide) rfl (fun ls hl => ?_)
  refine lv_goto (tgt := 4) hx hb dX8_cashOfAll_22 (by decide) ?_
  refine lv_iload_n hx hb dX8_cashOfAll_4 rfl (lv_at hl 0 rfl) ?_
  refine lv_bipush (v := 8) hx hb dX8_cashOfAll_5 (by decide) ?_
  refine jic_ge (tgt := 25) hx hb dX8_cashOfAll_7 (by decide) (fun c3 => absurd c3 (by decide)) (fun c3 => ?_)
  refine lv_iload_n hx hb dX8_cashOfAll_10 rfl (lv_at hl 1 rfl) ?_
  refine lv_aload_n hx hb dX8_cashOfAll_11 rfl (lv_at hl 2 rfl) ?_
  refine xg hC hK hH flX8_9 hc_w rfl dX8_cashOfAll_12 ?_
  refine lv_iload_n hx hb dX8_cashOfAll_15 rfl (lv_at hl 0 rfl) ?_
  refine xild hC hK hH hc_cs (iIn (by decide) (by decide)) dX8_cashOfAll_16 ?_
  refine lv_cst (v := 100) (c100_at _ (by decide)) ?_
  refine lv_iadd hx hb dX8_cashOfAll_17 ?_
  refine lv_cst (v := 300) (by decide) ?_
  refine lv_istore_n (lv' := [(1, .int 300), (2, .int 2), (0, .ref w)]) hx hb dX8_cashOfAll_18 rfl hl (by decide) rfl (fun ls hl => ?_)
  refine lv_iinc (v := 3) (lv' := [(2, .int 3), (1, .int 300), (0, .ref w)]) hx hb dX8_cashOfAll_19 hl (k := 1) rfl (by decide) (by decide) rfl (fun ls hl => ?_)
  refine lv_goto (tgt := 4) hx hb dX8_cashOfAll_22 (by decide) ?_
  refine lv_iload_n hx hb dX8_cashOfAll_4 rfl (lv_at hl 0 rfl) ?_
  refine lv_bipush (v := 8) hx hb dX8_cashOfAll_5 (by decide) ?_
  refine jic_ge (tgt := 25) hx hb dX8_cashOfAll_7 (by decide) (fun c4 => absurd c4 (by decide)) (fun c4 => ?_)
  refine lv_iload_n hx hb dX8_cashOfAll_10 rfl (lv_at hl 1 rfl) ?_
  refine lv_aload_n hx hb dX8_cashOfAll_11 rfl (lv_at hl 2 rfl) ?_
  refine xg hC hK hH flX8_9 hc_w rfl dX8_cashOfAll_12 ?_
  refine lv_iload_n hx hb dX8_cashOfAll_15 rfl (lv_at hl 0 rfl) ?_
  refine xild hC hK hH hc_cs (iIn (by decide) (by decide)) dX8_cashOfAll_16 ?_
  refine lv_cst (v := 100) (c100_at _ (by decide)) ?_
  refine lv_iadd hx hb dX8_cashOfAll_17 ?_
  refine lv_cst (v := 400) (by decide) ?_
  refine lv_istore_n (lv' := [(1, .int 400), (2, .int 3), (0, .ref w)]) hx hb dX8_cashOfAll_18 rfl hl (by decide) rfl (fun ls hl => ?_)
  refine lv_iinc (v := 4) (lv' := [(2, .int 4), (1, .int 400), (0, .ref w)]) hx hb dX8_cashOfAll_19 hl (k := 1) rfl (by decide) (by decide) rfl (fun ls hl => ?_)
  refine lv_goto (tgt := 4) hx hb dX8_cashOfAll_22 (by decide) ?_
  refine lv_iload_n hx hb dX8_cashOfAll_4 rfl (lv_at hl 0 rfl) ?_
  refine lv_bipush (v := 8) hx hb dX8_cashOfAll_5 (by decide) ?_
  refine jic_ge (tgt := 25) hx hb dX8_cashOfAll_7 (by decide) (fun c5 => absurd c5 (by decide)) (fun c5 => ?_)
  refine lv_iload_n hx hb dX8_cashOfAll_10 rfl (lv_at hl 1 rfl) ?_
  refine lv_aload_n hx hb dX8_cashOfAll_11 rfl (lv_at hl 2 rfl) ?_
  refine xg hC hK hH flX8_9 hc_w rfl dX8_cashOfAll_12 ?_
  refine lv_iload_n hx hb dX8_cashOfAll_15 rfl (lv_at hl 0 rfl) ?_
  refine xild hC hK hH hc_cs (iIn (by decide) (by decide)) dX8_cashOfAll_16 ?_
  refine lv_cst (v := 100) (c100_at _ (by decide)) ?_
  refine lv_iadd hx hb dX8_cashOfAll_17 ?_
  refine lv_cst (v := 500) (by decide) ?_
  refine lv_istore_n (lv' := [(1, .int 500), (2, .int 4), (0, .ref w)]) hx hb dX8_cashOfAll_18 rfl hl (by decide) rfl (fun ls hl => ?_)
  refine lv_iinc (v := 5) (lv' := [(2, .int 5), (1, .int 500), (0, .ref w)]) hx hb dX8_cashOfAll_19 hl (k := 1) rfl (by decide) (by decide) rfl (fun ls hl => ?_)
  refine lv_goto (tgt := 4) hx hb dX8_cashOfAll_22 (by decide) ?_
  refine lv_iload_n hx hb dX8_cashOfAll_4 rfl (lv_at hl 0 rfl) ?_
  refine lv_bipush (v := 8) hx hb dX8_cashOfAll_5 (by decide) ?_
  refine jic_ge (tgt := 25) hx hb dX8_cashOfAll_7 (by decide) (fun c6 => absurd c6 (by decide)) (fun c6 => ?_)
  refine lv_iload_n hx hb dX8_cashOfAll_10 rfl (lv_at hl 1 rfl) ?_
  refine lv_aload_n hx hb dX8_cashOfAll_11 rfl (lv_at hl 2 rfl) ?_
  refine xg hC hK hH flX8_9 hc_w rfl dX8_cashOfAll_12 ?_
  refine lv_iload_n hx hb dX8_cashOfAll_15 rfl (lv_at hl 0 rfl) ?_
  refine xild hC hK hH hc_cs (iIn (by decide) (by decide)) dX8_cashOfAll_16 ?_
  refine lv_cst (v := 100) (c100_at _ (by decide)) ?_
  refine lv_iadd hx hb dX8_cashOfAll_17 ?_
  refine lv_cst (v := 600) (by decide) ?_
  refine lv_istore_n (lv' := [(1, .int 600), (2, .int 5), (0, .ref w)]) hx hb dX8_cashOfAll_18 rfl hl (by decide) rfl (fun ls hl => ?_)
  refine lv_iinc (v := 6) (lv' := [(2, .int 6), (1, .int 600), (0, .ref w)]) hx hb dX8_cashOfAll_19 hl (k := 1) rfl (by decide) (by decide) rfl (fun ls hl => ?_)
  refine lv_goto (tgt := 4) hx hb dX8_cashOfAll_22 (by decide) ?_
  refine lv_iload_n hx hb dX8_cashOfAll_4 rfl (lv_at hl 0 rfl) ?_
  refine lv_bipush (v := 8) hx hb dX8_cashOfAll_5 (by decide) ?_
  refine jic_ge (tgt := 25) hx hb dX8_cashOfAll_7 (by decide) (fun c7 => absurd c7 (by decide)) (fun c7 => ?_)
  refine lv_iload_n hx hb dX8_cashOfAll_10 rfl (lv_at hl 1 rfl) ?_
  refine lv_aload_n hx hb dX8_cashOfAll_11 rfl (lv_at hl 2 rfl) ?_
  refine xg hC hK hH flX8_9 hc_w rfl dX8_cashOfAll_12 ?_
  refine lv_iload_n hx hb dX8_cashOfAll_15 rfl (lv_at hl 0 rfl) ?_
  refine xild hC hK hH hc_cs (iIn (by decide) (by decide)) dX8_cashOfAll_16 ?_
  refine lv_cst (v := 100) (c100_at _ (by decide)) ?_
  refine lv_iadd hx hb dX8_cashOfAll_17 ?_
  refine lv_cst (v := 700) (by decide) ?_
  refine lv_istore_n (lv' := [(1, .int 700), (2, .int 6), (0, .ref w)]) hx hb dX8_cashOfAll_18 rfl hl (by decide) rfl (fun ls hl => ?_)
  refine lv_iinc (v := 7) (lv' := [(2, .int 7), (1, .int 700), (0, .ref w)]) hx hb dX8_cashOfAll_19 hl (k := 1) rfl (by decide) (by decide) rfl (fun ls hl => ?_)
  refine lv_goto (tgt := 4) hx hb dX8_cashOfAll_22 (by decide) ?_
  refine lv_iload_n hx hb dX8_cashOfAll_4 rfl (lv_at hl 0 rfl) ?_
  refine lv_bipush (v := 8) hx hb dX8_cashOfAll_5 (by decide) ?_
  refine jic_ge (tgt := 25) hx hb dX8_cashOfAll_7 (by decide) (fun c8 => absurd c8 (by decide)) (fun c8 => ?_)
  refine lv_iload_n hx hb dX8_cashOfAll_10 rfl (lv_at hl 1 rfl) ?_
  refine lv_aload_n hx hb dX8_cashOfAll_11 rfl (lv_at hl 2 rfl) ?_
  refine xg hC hK hH flX8_9 hc_w rfl dX8_cashOfAll_12 ?_
  refine lv_iload_n hx hb dX8_cashOfAll_15 rfl (lv_at hl 0 rfl) ?_
  refine xild hC hK hH hc_cs (iIn (by decide) (by decide)) dX8_cashOfAll_16 ?_
  refine lv_cst (v := 100) (c100_at _ (by decide)) ?_
  refine lv_iadd hx hb dX8_cashOfAll_17 ?_
  refine lv_cst (v := 800) (by decide) ?_
  refine lv_istore_n (lv' := [(1, .int 800), (2, .int 7), (0, .ref w)]) hx hb dX8_cashOfAll_18 rfl hl (by decide) rfl (fun ls hl => ?_)
  refine lv_iinc (v := 8) (lv' := [(2, .int 8), (1, .int 800), (0, .ref w)]) hx hb dX8_cashOfAll_19 hl (k := 1) rfl (by decide) (by decide) rfl (fun ls hl => ?_)
  refine lv_goto (tgt := 4) hx hb dX8_cashOfAll_22 (by decide) ?_
  refine lv_iload_n hx hb dX8_cashOfAll_4 rfl (lv_at hl 0 rfl) ?_
  refine lv_bipush (v := 8) hx hb dX8_cashOfAll_5 (by decide) ?_
  refine jic_ge (tgt := 25) hx hb dX8_cashOfAll_7 (by decide) (fun c9 => ?_) (fun c9 => absurd c9 (by decide))
  refine lv_iload_n hx hb dX8_cashOfAll_25 rfl (lv_at hl 1 rfl) ?_
  exact ret_i hC hr hlk hK hH (⟨rfl, rfl, rfl⟩) (Nat.le_of_ble_eq_true rfl) (Nat.le_of_ble_eq_true rfl) dX8_cashOfAll_26
set_option maxHeartbeats 4000000 in
set_option maxRecDepth 100000 in
theorem c_X8_dishonouredBills {l : Launch} {D : va_G} {kA : Nat → ClassId} {M : mM} {T : mT} {sz : Nat} {w cs bs tp : Nat} {td gd py rf lt tl fp : Int32} (hc_w : M w = some (.inr (6, [.int td, .int gd, .int 0, .int py, .int rf, .int lt, .int tl, .int fp, .ref cs, .ref bs, .ref tp]))) : mCi l yX8_dishonouredBills cX8_dishonouredBills 3 (some .int) 0 0 0 D kA M T sz [.ref w] (fun r u => (r = 0) ∧ u.2 = T ∧ u.1 = M) := by
  unfold mCi
  refine start_W (by decide) (Nat.le_of_ble_eq_true rfl) ?_
  intro p e s m below meth c ls hC hr hlk hnm hK hH hsz hl
  have hx := hC.1
  have hb := hC.2.1
  have hl : lv_has ls 3 [(0, .ref w)] := hl
  refine lv_iconst (v := 0) hx hb dX8_dishonouredBills_0 (by decide) ?_
  refine lv_istore_n (lv' := [(1, .int 0), (0, .ref w)]) hx hb dX8_dishonouredBills_1 rfl hl (by decide) rfl (fun ls hl => ?_)
  refine lv_iconst (v := 0) hx hb dX8_dishonouredBills_2 (by decide) ?_
  refine lv_istore_n (lv' := [(2, .int 0), (1, .int 0), (0, .ref w)]) hx hb dX8_dishonouredBills_3 rfl hl (by decide) rfl (fun ls hl => ?_)
  refine lv_iload_n hx hb dX8_dishonouredBills_4 rfl (lv_at hl 0 rfl) ?_
  refine lv_aload_n hx hb dX8_dishonouredBills_5 rfl (lv_at hl 2 rfl) ?_
  refine xg hC hK hH flX8_36 hc_w rfl dX8_dishonouredBills_6 ?_
  refine jic_ge (tgt := 42) hx hb dX8_dishonouredBills_9 (by decide) (fun c1 => ?_) (fun c1 => absurd c1 (by decide))
  refine lv_iload_n hx hb dX8_dishonouredBills_42 rfl (lv_at hl 1 rfl) ?_
  exact ret_i hC hr hlk hK hH (⟨rfl, rfl, rfl⟩) (Nat.le_of_ble_eq_true rfl) (Nat.le_of_ble_eq_true rfl) dX8_dishonouredBills_43
set_option maxHeartbeats 4000000 in
set_option maxRecDepth 100000 in
theorem c_X8_doneBills {l : Launch} {D : va_G} {kA : Nat → ClassId} {M : mM} {T : mT} {sz : Nat} {w cs bs tp : Nat} {td gd py rf lt tl fp : Int32} (hc_w : M w = some (.inr (6, [.int td, .int gd, .int 0, .int py, .int rf, .int lt, .int tl, .int fp, .ref cs, .ref bs, .ref tp]))) : mCi l yX8_doneBills cX8_doneBills 3 (some .int) 0 0 0 D kA M T sz [.ref w] (fun r u => (r = 0) ∧ u.2 = T ∧ u.1 = M) := by
  unfold mCi
  refine start_W (by decide) (Nat.le_of_ble_eq_true rfl) ?_
  intro p e s m below meth c ls hC hr hlk hnm hK hH hsz hl
  have hx := hC.1
  have hb := hC.2.1
  have hl : lv_has ls 3 [(0, .ref w)] := hl
  refine lv_iconst (v := 0) hx hb dX8_doneBills_0 (by decide) ?_
  refine lv_istore_n (lv' := [(1, .int 0), (0, .ref w)]) hx hb dX8_doneBills_1 rfl hl (by decide) rfl (fun ls hl => ?_)
  refine lv_iconst (v := 0) hx hb dX8_doneBills_2 (by decide) ?_
  refine lv_istore_n (lv' := [(2, .int 0), (1, .int 0), (0, .ref w)]) hx hb dX8_doneBills_3 rfl hl (by decide) rfl (fun ls hl => ?_)
  refine lv_iload_n hx hb dX8_doneBills_4 rfl (lv_at hl 0 rfl) ?_
  refine lv_aload_n hx hb dX8_doneBills_5 rfl (lv_at hl 2 rfl) ?_
  refine xg hC hK hH flX8_36 hc_w rfl dX8_doneBills_6 ?_
  refine jic_ge (tgt := 33) hx hb dX8_doneBills_9 (by decide) (fun c1 => ?_) (fun c1 => absurd c1 (by decide))
  refine lv_iload_n hx hb dX8_doneBills_33 rfl (lv_at hl 1 rfl) ?_
  exact ret_i hC hr hlk hK hH (⟨rfl, rfl, rfl⟩) (Nat.le_of_ble_eq_true rfl) (Nat.le_of_ble_eq_true rfl) dX8_doneBills_34
set_option maxHeartbeats 4000000 in
set_option maxRecDepth 100000 in
theorem c_X8_addNumber {l : Launch} {D : va_G} {kA : Nat → ClassId} {M : mM} {T : mT} {sz : Nat} {w cs bs tp : Nat} {td gd bc py rf lt tl fp : Int32} {n t2 : Int32} (hc_w : M w = some (.inr (6, [.int td, .int gd, .int bc, .int py, .int rf, .int lt, .int tl, .int fp, .ref cs, .ref bs, .ref tp]))) (ht_tp : T tp = some 7) (htl : 0 ≤ tl.toInt ∧ tl.toInt ≤ 596) (ht2 : t2.toInt = tl.toInt + 4) : mCv l yX8_addNumber cX8_addNumber 3 0 0 0 D kA M T sz [.ref w, .int n] (fun u => (u.1 w = some (.inr (6, [.int td, .int gd, .int bc, .int py, .int rf, .int lt, .int t2, .int fp, .ref cs, .ref bs, .ref tp]))) ∧ u.2 = T ∧ (∀ q, q ≠ w → u.1 q = M q)) := by
  unfold mCv
  refine start_W (by decide) (Nat.le_of_ble_eq_true rfl) ?_
  intro p e s m below meth c ls hC hr hlk hnm hK hH hsz hl
  have hx := hC.1
  have hb := hC.2.1
  have hl : lv_has ls 3 [(0, .ref w), (1, .int n)] := hl
  have hF : ∀ q, q ≠ w → M q = M q := fun q _ => rfl
  refine lv_bipush (v := 24) hx hb dX8_addNumber_0 (by decide) ?_
  refine lv_istore_n (lv' := [(2, .int 24), (0, .ref w), (1, .int n)]) hx hb dX8_addNumber_2 rfl hl (by decide) rfl (fun ls hl => ?_)
  refine lv_iload_n hx hb dX8_addNumber_3 rfl (lv_at hl 0 rfl) ?_
  refine jif_lt (tgt := 36) hx hb dX8_addNumber_4 (by decide) (fun c1 => absurd c1 (by decide)) (fun c1 => ?_)
  refine lv_aload_n hx hb dX8_addNumber_7 rfl (lv_at hl 1 rfl) ?_
  refine xg hC hK hH flX8_21 hc_w rfl dX8_addNumber_8 ?_
  refine lv_aload_n hx hb dX8_addNumber_11 rfl (lv_at hl 1 rfl) ?_
  refine xg hC hK hH flX8_48 hc_w rfl dX8_addNumber_12 ?_
  refine lv_iload_n hx hb dX8_addNumber_15 rfl (lv_at hl 2 rfl) ?_
  refine lv_iload_n hx hb dX8_addNumber_16 rfl (lv_at hl 0 rfl) ?_
  refine lv_ishr hx hb dX8_addNumber_17 ?_
  refine lv_topi (fun z2 e_z2 => ?_)
  refine lv_i2b (v := z2.toInt8.toInt32) hx hb dX8_addNumber_18 rfl ?_
  refine tbst (x := z2.toInt8.toInt32) hC hK hH ht_tp rfl (iIn (by omega) (by omega)) (nbl _) (nbh _) dX8_addNumber_19 (fun H locs hH => ?_)
  refine lv_aload_n hx hb dX8_addNumber_20 rfl (lv_at hl 1 rfl) ?_
  refine lv_dup hx hb dX8_addNumber_21 rfl ?_
  refine xg hC hK hH flX8_48 hc_w rfl dX8_addNumber_22 ?_
  refine lv_iconst (v := 1) hx hb dX8_addNumber_25 (by decide) ?_
  refine lv_iadd hx hb dX8_addNumber_26 ?_
  refine lv_topi (fun z4 e_z4 => ?_)
  have h_z4 : z4.toInt = tl.toInt + 1 := by rw [e_z4, iAdd (by have := iRg tl; have : (1 : Int32).toInt = 1 := rfl; omega) (by have := iRg tl; have : (1 : Int32).toInt = 1 := rfl; omega)]; rfl
  refine yp (v := .int z4) hC hK hH flX8_48 hc_w rfl rfl (Nat.le_of_ble_eq_true rfl) dX8_addNumber_27 (fun H locs M5 hc_w hfr hH => ?_)
  have hc_w : M5 w = some (.inr (6, [.int td, .int gd, .int bc, .int py, .int rf, .int lt, .int z4, .int fp, .ref cs, .ref bs, .ref tp])) := hc_w
  have hF : ∀ q, q ≠ w → M5 q = M q := fun q h0 => (hfr q h0).trans (hF q h0)
  refine lv_iinc (v := 16) (lv' := [(2, .int 16), (0, .ref w), (1, .int n)]) hx hb dX8_addNumber_30 hl (k := 0) rfl (by decide) (by decide) rfl (fun ls hl => ?_)
  refine lv_goto (tgt := 3) hx hb dX8_addNumber_33 (by decide) ?_
  refine lv_iload_n hx hb dX8_addNumber_3 rfl (lv_at hl 0 rfl) ?_
  refine jif_lt (tgt := 36) hx hb dX8_addNumber_4 (by decide) (fun c6 => absurd c6 (by decide)) (fun c6 => ?_)
  refine lv_aload_n hx hb dX8_addNumber_7 rfl (lv_at hl 1 rfl) ?_
  refine xg hC hK hH flX8_21 hc_w rfl dX8_addNumber_8 ?_
  refine lv_aload_n hx hb dX8_addNumber_11 rfl (lv_at hl 1 rfl) ?_
  refine xg hC hK hH flX8_48 hc_w rfl dX8_addNumber_12 ?_
  refine lv_iload_n hx hb dX8_addNumber_15 rfl (lv_at hl 2 rfl) ?_
  refine lv_iload_n hx hb dX8_addNumber_16 rfl (lv_at hl 0 rfl) ?_
  refine lv_ishr hx hb dX8_addNumber_17 ?_
  refine lv_topi (fun z7 e_z7 => ?_)
  refine lv_i2b (v := z7.toInt8.toInt32) hx hb dX8_addNumber_18 rfl ?_
  refine tbst (x := z7.toInt8.toInt32) hC hK hH ht_tp rfl (iIn (by omega) (by omega)) (nbl _) (nbh _) dX8_addNumber_19 (fun H locs hH => ?_)
  refine lv_aload_n hx hb dX8_addNumber_20 rfl (lv_at hl 1 rfl) ?_
  refine lv_dup hx hb dX8_addNumber_21 rfl ?_
  refine xg hC hK hH flX8_48 hc_w rfl dX8_addNumber_22 ?_
  refine lv_iconst (v := 1) hx hb dX8_addNumber_25 (by decide) ?_
  refine lv_iadd hx hb dX8_addNumber_26 ?_
  refine lv_topi (fun z9 e_z9 => ?_)
  have h_z9 : z9.toInt = z4.toInt + 1 := by rw [e_z9, iAdd (by have := iRg z4; have : (1 : Int32).toInt = 1 := rfl; omega) (by have := iRg z4; have : (1 : Int32).toInt = 1 := rfl; omega)]; rfl
  refine yp (v := .int z9) hC hK hH flX8_48 hc_w rfl rfl (Nat.le_of_ble_eq_true rfl) dX8_addNumber_27 (fun H locs M10 hc_w hfr hH => ?_)
  have hc_w : M10 w = some (.inr (6, [.int td, .int gd, .int bc, .int py, .int rf, .int lt, .int z9, .int fp, .ref cs, .ref bs, .ref tp])) := hc_w
  have hF : ∀ q, q ≠ w → M10 q = M q := fun q h0 => (hfr q h0).trans (hF q h0)
  refine lv_iinc (v := 8) (lv' := [(2, .int 8), (0, .ref w), (1, .int n)]) hx hb dX8_addNumber_30 hl (k := 0) rfl (by decide) (by decide) rfl (fun ls hl => ?_)
  refine lv_goto (tgt := 3) hx hb dX8_addNumber_33 (by decide) ?_
  refine lv_iload_n hx hb dX8_addNumber_3 rfl (lv_at hl 0 rfl) ?_
  refine jif_lt (tgt := 36) hx hb dX8_addNumber_4 (by decide) (fun c11 => absurd c11 (by decide)) (fun c11 => ?_)
  refine lv_aload_n hx hb dX8_addNumber_7 rfl (lv_at hl 1 rfl) ?_
  refine xg hC hK hH flX8_21 hc_w rfl dX8_addNumber_8 ?_
  refine lv_aload_n hx hb dX8_addNumber_11 rfl (lv_at hl 1 rfl) ?_
  refine xg hC hK hH flX8_48 hc_w rfl dX8_addNumber_12 ?_
  refine lv_iload_n hx hb dX8_addNumber_15 rfl (lv_at hl 2 rfl) ?_
  refine lv_iload_n hx hb dX8_addNumber_16 rfl (lv_at hl 0 rfl) ?_
  refine lv_ishr hx hb dX8_addNumber_17 ?_
  refine lv_topi (fun z12 e_z12 => ?_)
  refine lv_i2b (v := z12.toInt8.toInt32) hx hb dX8_addNumber_18 rfl ?_
  refine tbst (x := z12.toInt8.toInt32) hC hK hH ht_tp rfl (iIn (by omega) (by omega)) (nbl _) (nbh _) dX8_addNumber_19 (fun H locs hH => ?_)
  refine lv_aload_n hx hb dX8_addNumber_20 rfl (lv_at hl 1 rfl) ?_
  refine lv_dup hx hb dX8_addNumber_21 rfl ?_
  refine xg hC hK hH flX8_48 hc_w rfl dX8_addNumber_22 ?_
  refine lv_iconst (v := 1) hx hb dX8_addNumber_25 (by decide) ?_
  refine lv_iadd hx hb dX8_addNumber_26 ?_
  refine lv_topi (fun z14 e_z14 => ?_)
  have h_z14 : z14.toInt = z9.toInt + 1 := by rw [e_z14, iAdd (by have := iRg z9; have : (1 : Int32).toInt = 1 := rfl; omega) (by have := iRg z9; have : (1 : Int32).toInt = 1 := rfl; omega)]; rfl
  refine yp (v := .int z14) hC hK hH flX8_48 hc_w rfl rfl (Nat.le_of_ble_eq_true rfl) dX8_addNumber_27 (fun H locs M15 hc_w hfr hH => ?_)
  have hc_w : M15 w = some (.inr (6, [.int td, .int gd, .int bc, .int py, .int rf, .int lt, .int z14, .int fp, .ref cs, .ref bs, .ref tp])) := hc_w
  have hF : ∀ q, q ≠ w → M15 q = M q := fun q h0 => (hfr q h0).trans (hF q h0)
  refine lv_iinc (v := 0) (lv' := [(2, .int 0), (0, .ref w), (1, .int n)]) hx hb dX8_addNumber_30 hl (k := 0) rfl (by decide) (by decide) rfl (fun ls hl => ?_)
  refine lv_goto (tgt := 3) hx hb dX8_addNumber_33 (by decide) ?_
  refine lv_iload_n hx hb dX8_addNumber_3 rfl (lv_at hl 0 rfl) ?_
  refine jif_lt (tgt := 36) hx hb dX8_addNumber_4 (by decide) (fun c16 => absurd c16 (by decide)) (fun c16 => ?_)
  refine lv_aload_n hx hb dX8_addNumber_7 rfl (lv_at hl 1 rfl) ?_
  refine xg hC hK hH flX8_21 hc_w rfl dX8_addNumber_8 ?_
  refine lv_aload_n hx hb dX8_addNumber_11 rfl (lv_at hl 1 rfl) ?_
  refine xg hC hK hH flX8_48 hc_w rfl dX8_addNumber_12 ?_
  refine lv_iload_n hx hb dX8_addNumber_15 rfl (lv_at hl 2 rfl) ?_
  refine lv_iload_n hx hb dX8_addNumber_16 rfl (lv_at hl 0 rfl) ?_
  refine lv_ishr hx hb dX8_addNumber_17 ?_
  refine lv_topi (fun z17 e_z17 => ?_)
  refine lv_i2b (v := z17.toInt8.toInt32) hx hb dX8_addNumber_18 rfl ?_
  refine tbst (x := z17.toInt8.toInt32) hC hK hH ht_tp rfl (iIn (by omega) (by omega)) (nbl _) (nbh _) dX8_addNumber_19 (fun H locs hH => ?_)
  refine lv_aload_n hx hb dX8_addNumber_20 rfl (lv_at hl 1 rfl) ?_
  refine lv_dup hx hb dX8_addNumber_21 rfl ?_
  refine xg hC hK hH flX8_48 hc_w rfl dX8_addNumber_22 ?_
  refine lv_iconst (v := 1) hx hb dX8_addNumber_25 (by decide) ?_
  refine lv_iadd hx hb dX8_addNumber_26 ?_
  refine lv_topi (fun z19 e_z19 => ?_)
  have h_z19 : z19.toInt = z14.toInt + 1 := by rw [e_z19, iAdd (by have := iRg z14; have : (1 : Int32).toInt = 1 := rfl; omega) (by have := iRg z14; have : (1 : Int32).toInt = 1 := rfl; omega)]; rfl
  refine yp (v := .int z19) hC hK hH flX8_48 hc_w rfl rfl (Nat.le_of_ble_eq_true rfl) dX8_addNumber_27 (fun H locs M20 hc_w hfr hH => ?_)
  have hc_w : M20 w = some (.inr (6, [.int td, .int gd, .int bc, .int py, .int rf, .int lt, .int z19, .int fp, .ref cs, .ref bs, .ref tp])) := hc_w
  have hF : ∀ q, q ≠ w → M20 q = M q := fun q h0 => (hfr q h0).trans (hF q h0)
  refine lv_iinc (v := -8) (lv' := [(2, .int (-8)), (0, .ref w), (1, .int n)]) hx hb dX8_addNumber_30 hl (k := 0) rfl (by decide) (by decide) rfl (fun ls hl => ?_)
  refine lv_goto (tgt := 3) hx hb dX8_addNumber_33 (by decide) ?_
  refine lv_iload_n hx hb dX8_addNumber_3 rfl (lv_at hl 0 rfl) ?_
  refine jif_lt (tgt := 36) hx hb dX8_addNumber_4 (by decide) (fun c21 => ?_) (fun c21 => absurd c21 (by decide))
  have et : z19 = t2 := iEq.mpr (by omega)
  have hc_w : M20 w = some (.inr (6, [.int td, .int gd, .int bc, .int py, .int rf, .int lt, .int t2, .int fp, .ref cs, .ref bs, .ref tp])) := by rw [← et]; exact hc_w
  exact ret_v hC hr hlk hK hH (⟨hc_w, rfl, hF⟩) (Nat.le_of_ble_eq_true rfl) (Nat.le_of_ble_eq_true rfl) dX8_addNumber_36
set_option maxHeartbeats 4000000 in
set_option maxRecDepth 100000 in
theorem c_X8_addBytes {l : Launch} {D : va_G} {kA : Nat → ClassId} {M : mM} {T : mT} {sz : Nat} {w cs bs tp : Nat} {td gd bc py rf lt fp : Int32} {a b c_ d e_ : Int32} (hc_w : M w = some (.inr (6, [.int td, .int gd, .int bc, .int py, .int rf, .int lt, .int 0, .int fp, .ref cs, .ref bs, .ref tp]))) (ht_tp : T tp = some 7) : mCi l yX8_addBytes cX8_addBytes 6 (some .int) 1 0 0 D kA M T sz [.ref w, .int a, .int b, .int c_, .int d, .int e_] (fun r u => (r = 20 ∧ u.1 w = some (.inr (6, [.int td, .int gd, .int bc, .int py, .int rf, .int lt, .int 20, .int fp, .ref cs, .ref bs, .ref tp]))) ∧ u.2 = T ∧ (∀ q, q ≠ w → u.1 q = M q)) := by
  unfold mCi
  refine start_W (by decide) (Nat.le_of_ble_eq_true rfl) ?_
  intro p e s m below meth c ls hC hr hlk hnm hK hH hsz hl
  have hx := hC.1
  have hb := hC.2.1
  have hl : lv_has ls 6 [(0, .ref w), (1, .int a), (2, .int b), (3, .int c_), (4, .int d), (5, .int e_)] := hl
  have hF : ∀ q, q ≠ w → M q = M q := fun q _ => rfl
  refine lv_aload_n hx hb dX8_addBytes_0 rfl (lv_at hl 0 rfl) ?_
  refine xg hC hK hH flX8_48 hc_w rfl dX8_addBytes_1 ?_
  refine lv_sipush (v := 580) hx hb dX8_addBytes_4 (by decide) ?_
  refine jic_le (tgt := 12) hx hb dX8_addBytes_7 (by decide) (fun c1 => ?_) (fun c1 => absurd c1 (by decide))
  refine lv_aload_n hx hb dX8_addBytes_12 rfl (lv_at hl 0 rfl) ?_
  refine lv_iload_n hx hb dX8_addBytes_13 rfl (lv_at hl 1 rfl) ?_
  refine goV hK hH (runV (As := [.int a]) (rest := []) hC hK hH (c_X8_addNumber (t2 := 4) hc_w ht_tp (by decide) (by decide)) mlX8_64 (rcvM hK hH hc_w rfl) ⟨⟨Nat.le_of_ble_eq_true rfl, Nat.le_of_ble_eq_true rfl⟩, Nat.le_of_ble_eq_true rfl, Nat.le_of_ble_eq_true rfl⟩ rfl hl.1 rfl (Nat.le_of_ble_eq_true rfl) dX8_addBytes_14) (fun M2 T3 H locs hP hz hH => ?_)
  try dsimp only at hP
  obtain ⟨(hx_w), eT, hfr⟩ := hP
  have eT := eT.symm; subst eT
  have hc_w : M2 w = some (.inr (6, [.int td, .int gd, .int bc, .int py, .int rf, .int lt, .int 4, .int fp, .ref cs, .ref bs, .ref tp])) := hx_w
  have hF : ∀ q, q ≠ w → M2 q = M q := fun q h0 => (hfr q h0).trans (hF q h0)
  refine lv_aload_n hx hb dX8_addBytes_17 rfl (lv_at hl 0 rfl) ?_
  refine lv_iload_n hx hb dX8_addBytes_18 rfl (lv_at hl 2 rfl) ?_
  refine goV hK hH (runV (As := [.int b]) (rest := []) hC hK hH (c_X8_addNumber (t2 := 8) hc_w ht_tp (by decide) (by decide)) mlX8_64 (rcvM hK hH hc_w rfl) ⟨⟨Nat.le_of_ble_eq_true rfl, Nat.le_of_ble_eq_true rfl⟩, Nat.le_of_ble_eq_true rfl, Nat.le_of_ble_eq_true rfl⟩ rfl hl.1 rfl (Nat.le_of_ble_eq_true rfl) dX8_addBytes_19) (fun M5 T6 H locs hP hz hH => ?_)
  try dsimp only at hP
  obtain ⟨(hx_w), eT, hfr⟩ := hP
  have eT := eT.symm; subst eT
  have hc_w : M5 w = some (.inr (6, [.int td, .int gd, .int bc, .int py, .int rf, .int lt, .int 8, .int fp, .ref cs, .ref bs, .ref tp])) := hx_w
  have hF : ∀ q, q ≠ w → M5 q = M q := fun q h0 => (hfr q h0).trans (hF q h0)
  refine lv_aload_n hx hb dX8_addBytes_22 rfl (lv_at hl 0 rfl) ?_
  refine lv_iload_n hx hb dX8_addBytes_23 rfl (lv_at hl 3 rfl) ?_
  refine goV hK hH (runV (As := [.int c_]) (rest := []) hC hK hH (c_X8_addNumber (t2 := 12) hc_w ht_tp (by decide) (by decide)) mlX8_64 (rcvM hK hH hc_w rfl) ⟨⟨Nat.le_of_ble_eq_true rfl, Nat.le_of_ble_eq_true rfl⟩, Nat.le_of_ble_eq_true rfl, Nat.le_of_ble_eq_true rfl⟩ rfl hl.1 rfl (Nat.le_of_ble_eq_true rfl) dX8_addBytes_24) (fun M8 T9 H locs hP hz hH => ?_)
  try dsimp only at hP
  obtain ⟨(hx_w), eT, hfr⟩ := hP
  have eT := eT.symm; subst eT
  have hc_w : M8 w = some (.inr (6, [.int td, .int gd, .int bc, .int py, .int rf, .int lt, .int 12, .int fp, .ref cs, .ref bs, .ref tp])) := hx_w
  have hF : ∀ q, q ≠ w → M8 q = M q := fun q h0 => (hfr q h0).trans (hF q h0)
  refine lv_aload_n hx hb dX8_addBytes_27 rfl (lv_at hl 0 rfl) ?_
  refine lv_iload hx hb dX8_addBytes_28 (lv_at hl 4 rfl) ?_
  refine goV hK hH (runV (As := [.int d]) (rest := []) hC hK hH (c_X8_addNumber (t2 := 16) hc_w ht_tp (by decide) (by decide)) mlX8_64 (rcvM hK hH hc_w rfl) ⟨⟨Nat.le_of_ble_eq_true rfl, Nat.le_of_ble_eq_true rfl⟩, Nat.le_of_ble_eq_true rfl, Nat.le_of_ble_eq_true rfl⟩ rfl hl.1 rfl (Nat.le_of_ble_eq_true rfl) dX8_addBytes_30) (fun M11 T12 H locs hP hz hH => ?_)
  try dsimp only at hP
  obtain ⟨(hx_w), eT, hfr⟩ := hP
  have eT := eT.symm; subst eT
  have hc_w : M11 w = some (.inr (6, [.int td, .int gd, .int bc, .int py, .int rf, .int lt, .int 16, .int fp, .ref cs, .ref bs, .ref tp])) := hx_w
  have hF : ∀ q, q ≠ w → M11 q = M q := fun q h0 => (hfr q h0).trans (hF q h0)
  refine lv_aload_n hx hb dX8_addBytes_33 rfl (lv_at hl 0 rfl) ?_
  refine lv_iload hx hb dX8_addBytes_34 (lv_at hl 5 rfl) ?_
  refine goV hK hH (runV (As := [.int e_]) (rest := []) hC hK hH (c_X8_addNumber (t2 := 20) hc_w ht_tp (by decide) (by decide)) mlX8_64 (rcvM hK hH hc_w rfl) ⟨⟨Nat.le_of_ble_eq_true rfl, Nat.le_of_ble_eq_true rfl⟩, Nat.le_of_ble_eq_true rfl, Nat.le_of_ble_eq_true rfl⟩ rfl hl.1 rfl (Nat.le_of_ble_eq_true rfl) dX8_addBytes_36) (fun M14 T15 H locs hP hz hH => ?_)
  try dsimp only at hP
  obtain ⟨(hx_w), eT, hfr⟩ := hP
  have eT := eT.symm; subst eT
  have hc_w : M14 w = some (.inr (6, [.int td, .int gd, .int bc, .int py, .int rf, .int lt, .int 20, .int fp, .ref cs, .ref bs, .ref tp])) := hx_w
  have hF : ∀ q, q ≠ w → M14 q = M q := fun q h0 => (hfr q h0).trans (hF q h0)
  refine lv_aload_n hx hb dX8_addBytes_39 rfl (lv_at hl 0 rfl) ?_
  refine xg hC hK hH flX8_48 hc_w rfl dX8_addBytes_40 ?_
  exact ret_i hC hr hlk hK hH (⟨⟨rfl, hc_w⟩, rfl, hF⟩) (Nat.le_of_ble_eq_true rfl) (Nat.le_of_ble_eq_true rfl) dX8_addBytes_43
end
section
theorem dX9_accept_0 : decode cX9_accept 0 = .ok (.aload_n 0, 1) := by decide +kernel
theorem dX9_accept_1 : decode cX9_accept 1 = .ok (.getfield 12, 3) := by decide +kernel
theorem dX9_accept_4 : decode cX9_accept 4 = .ok (.aload_n 0, 1) := by decide +kernel
theorem dX9_accept_5 : decode cX9_accept 5 = .ok (.getfield 12, 3) := by decide +kernel
theorem dX9_accept_8 : decode cX9_accept 8 = .ok (.iload_n 1, 1) := by decide +kernel
theorem dX9_accept_9 : decode cX9_accept 9 = .ok (.invokevirtual 100, 3) := by decide +kernel
theorem dX9_accept_12 : decode cX9_accept 12 = .ok (.invokevirtual 76, 3) := by decide +kernel
theorem dX9_accept_15 : decode cX9_accept 15 = .ok (.ireturn, 1) := by decide +kernel
theorem dX9_bill_0 : decode cX9_bill 0 = .ok (.aload_n 0, 1) := by decide +kernel
theorem dX9_bill_1 : decode cX9_bill 1 = .ok (.getfield 12, 3) := by decide +kernel
theorem dX9_bill_4 : decode cX9_bill 4 = .ok (.iload_n 1, 1) := by decide +kernel
theorem dX9_bill_5 : decode cX9_bill 5 = .ok (.invokevirtual 163, 3) := by decide +kernel
theorem dX9_bill_8 : decode cX9_bill 8 = .ok (.ifCond .ne 6, 3) := by decide +kernel
theorem dX9_bill_11 : decode cX9_bill 11 = .ok (.bipush (-2), 2) := by decide +kernel
theorem dX9_bill_13 : decode cX9_bill 13 = .ok (.ireturn, 1) := by decide +kernel
theorem dX9_cash_0 : decode cX9_cash 0 = .ok (.aload_n 0, 1) := by decide +kernel
theorem dX9_cash_1 : decode cX9_cash 1 = .ok (.getfield 12, 3) := by decide +kernel
theorem dX9_cash_4 : decode cX9_cash 4 = .ok (.aload_n 0, 1) := by decide +kernel
theorem dX9_cash_5 : decode cX9_cash 5 = .ok (.getfield 12, 3) := by decide +kernel
theorem dX9_cash_8 : decode cX9_cash 8 = .ok (.iload_n 1, 1) := by decide +kernel
theorem dX9_cash_9 : decode cX9_cash 9 = .ok (.iload_n 2, 1) := by decide +kernel
theorem dX9_cash_10 : decode cX9_cash 10 = .ok (.invokevirtual 86, 3) := by decide +kernel
theorem dX9_cash_13 : decode cX9_cash 13 = .ok (.invokevirtual 76, 3) := by decide +kernel
theorem dX9_cash_16 : decode cX9_cash 16 = .ok (.ireturn, 1) := by decide +kernel
theorem dX9_count_0 : decode cX9_count 0 = .ok (.iload_n 1, 1) := by decide +kernel
theorem dX9_count_1 : decode cX9_count 1 = .ok (.tableswitch 123 0 8 #[51, 59, 67, 75, 83, 91, 99, 107, 115], 51) := by decide +kernel
theorem dX9_count_52 : decode cX9_count 52 = .ok (.aload_n 0, 1) := by decide +kernel
theorem dX9_count_53 : decode cX9_count 53 = .ok (.getfield 12, 3) := by decide +kernel
theorem dX9_count_56 : decode cX9_count 56 = .ok (.getfield 134, 3) := by decide +kernel
theorem dX9_count_59 : decode cX9_count 59 = .ok (.ireturn, 1) := by decide +kernel
theorem dX9_count_60 : decode cX9_count 60 = .ok (.aload_n 0, 1) := by decide +kernel
theorem dX9_count_61 : decode cX9_count 61 = .ok (.getfield 12, 3) := by decide +kernel
theorem dX9_count_64 : decode cX9_count 64 = .ok (.getfield 97, 3) := by decide +kernel
theorem dX9_count_67 : decode cX9_count 67 = .ok (.ireturn, 1) := by decide +kernel
theorem dX9_count_68 : decode cX9_count 68 = .ok (.aload_n 0, 1) := by decide +kernel
theorem dX9_count_69 : decode cX9_count 69 = .ok (.getfield 12, 3) := by decide +kernel
theorem dX9_count_72 : decode cX9_count 72 = .ok (.getfield 137, 3) := by decide +kernel
theorem dX9_count_75 : decode cX9_count 75 = .ok (.ireturn, 1) := by decide +kernel
theorem dX9_count_76 : decode cX9_count 76 = .ok (.aload_n 0, 1) := by decide +kernel
theorem dX9_count_77 : decode cX9_count 77 = .ok (.getfield 12, 3) := by decide +kernel
theorem dX9_count_80 : decode cX9_count 80 = .ok (.invokevirtual 140, 3) := by decide +kernel
theorem dX9_count_83 : decode cX9_count 83 = .ok (.ireturn, 1) := by decide +kernel
theorem dX9_count_84 : decode cX9_count 84 = .ok (.aload_n 0, 1) := by decide +kernel
theorem dX9_count_85 : decode cX9_count 85 = .ok (.getfield 12, 3) := by decide +kernel
theorem dX9_count_88 : decode cX9_count 88 = .ok (.getfield 143, 3) := by decide +kernel
theorem dX9_count_91 : decode cX9_count 91 = .ok (.ireturn, 1) := by decide +kernel
theorem dX9_count_92 : decode cX9_count 92 = .ok (.aload_n 0, 1) := by decide +kernel
theorem dX9_count_93 : decode cX9_count 93 = .ok (.getfield 12, 3) := by decide +kernel
theorem dX9_count_96 : decode cX9_count 96 = .ok (.invokevirtual 146, 3) := by decide +kernel
theorem dX9_count_99 : decode cX9_count 99 = .ok (.ireturn, 1) := by decide +kernel
theorem dX9_count_100 : decode cX9_count 100 = .ok (.aload_n 0, 1) := by decide +kernel
theorem dX9_count_101 : decode cX9_count 101 = .ok (.getfield 12, 3) := by decide +kernel
theorem dX9_count_104 : decode cX9_count 104 = .ok (.invokevirtual 149, 3) := by decide +kernel
theorem dX9_count_107 : decode cX9_count 107 = .ok (.ireturn, 1) := by decide +kernel
theorem dX9_count_108 : decode cX9_count 108 = .ok (.aload_n 0, 1) := by decide +kernel
theorem dX9_count_109 : decode cX9_count 109 = .ok (.getfield 12, 3) := by decide +kernel
theorem dX9_count_112 : decode cX9_count 112 = .ok (.getfield 152, 3) := by decide +kernel
theorem dX9_count_115 : decode cX9_count 115 = .ok (.ireturn, 1) := by decide +kernel
theorem dX9_count_116 : decode cX9_count 116 = .ok (.aload_n 0, 1) := by decide +kernel
theorem dX9_count_117 : decode cX9_count 117 = .ok (.getfield 12, 3) := by decide +kernel
theorem dX9_count_120 : decode cX9_count 120 = .ok (.getfield 45, 3) := by decide +kernel
theorem dX9_count_123 : decode cX9_count 123 = .ok (.ireturn, 1) := by decide +kernel
theorem dX9_count_124 : decode cX9_count 124 = .ok (.iload_n 1, 1) := by decide +kernel
theorem dX9_count_125 : decode cX9_count 125 = .ok (.bipush 10, 2) := by decide +kernel
theorem dX9_count_127 : decode cX9_count 127 = .ok (.isub, 1) := by decide +kernel
theorem dX9_count_128 : decode cX9_count 128 = .ok (.invokestatic 155, 3) := by decide +kernel
theorem dX9_count_131 : decode cX9_count 131 = .ok (.ifCond .eq 18, 3) := by decide +kernel
theorem dX9_count_134 : decode cX9_count 134 = .ok (.aload_n 0, 1) := by decide +kernel
theorem dX9_count_135 : decode cX9_count 135 = .ok (.getfield 12, 3) := by decide +kernel
theorem dX9_count_138 : decode cX9_count 138 = .ok (.getfield 159, 3) := by decide +kernel
theorem dX9_count_141 : decode cX9_count 141 = .ok (.iload_n 1, 1) := by decide +kernel
theorem dX9_count_142 : decode cX9_count 142 = .ok (.bipush 10, 2) := by decide +kernel
theorem dX9_count_144 : decode cX9_count 144 = .ok (.isub, 1) := by decide +kernel
theorem dX9_count_145 : decode cX9_count 145 = .ok (.iaload, 1) := by decide +kernel
theorem dX9_count_146 : decode cX9_count 146 = .ok (.goto 4, 3) := by decide +kernel
theorem dX9_count_149 : decode cX9_count 149 = .ok (.iconst (-1), 1) := by decide +kernel
theorem dX9_count_150 : decode cX9_count 150 = .ok (.ireturn, 1) := by decide +kernel
theorem dX9_day_0 : decode cX9_day 0 = .ok (.aload_n 0, 1) := by decide +kernel
theorem dX9_day_1 : decode cX9_day 1 = .ok (.getfield 12, 3) := by decide +kernel
theorem dX9_day_4 : decode cX9_day 4 = .ok (.aload_n 0, 1) := by decide +kernel
theorem dX9_day_5 : decode cX9_day 5 = .ok (.getfield 12, 3) := by decide +kernel
theorem dX9_day_8 : decode cX9_day 8 = .ok (.iload_n 1, 1) := by decide +kernel
theorem dX9_day_9 : decode cX9_day 9 = .ok (.invokevirtual 83, 3) := by decide +kernel
theorem dX9_day_12 : decode cX9_day 12 = .ok (.invokevirtual 76, 3) := by decide +kernel
theorem dX9_day_15 : decode cX9_day 15 = .ok (.ireturn, 1) := by decide +kernel
theorem dX9_defend_0 : decode cX9_defend 0 = .ok (.aload_n 0, 1) := by decide +kernel
theorem dX9_defend_1 : decode cX9_defend 1 = .ok (.getfield 12, 3) := by decide +kernel
theorem dX9_defend_4 : decode cX9_defend 4 = .ok (.aload_n 0, 1) := by decide +kernel
theorem dX9_defend_5 : decode cX9_defend 5 = .ok (.getfield 12, 3) := by decide +kernel
theorem dX9_defend_8 : decode cX9_defend 8 = .ok (.iload_n 1, 1) := by decide +kernel
theorem dX9_defend_9 : decode cX9_defend 9 = .ok (.iload_n 2, 1) := by decide +kernel
theorem dX9_defend_10 : decode cX9_defend 10 = .ok (.iload_n 3, 1) := by decide +kernel
theorem dX9_defend_11 : decode cX9_defend 11 = .ok (.invokevirtual 114, 3) := by decide +kernel
theorem dX9_defend_14 : decode cX9_defend 14 = .ok (.invokevirtual 76, 3) := by decide +kernel
theorem dX9_defend_17 : decode cX9_defend 17 = .ok (.ireturn, 1) := by decide +kernel
theorem dX9_end_0 : decode cX9_end 0 = .ok (.iload_n 1, 1) := by decide +kernel
theorem dX9_end_1 : decode cX9_end 1 = .ok (.ifCond .lt 14, 3) := by decide +kernel
theorem dX9_end_4 : decode cX9_end 4 = .ok (.iload_n 1, 1) := by decide +kernel
theorem dX9_end_5 : decode cX9_end 5 = .ok (.aload_n 0, 1) := by decide +kernel
theorem dX9_end_6 : decode cX9_end 6 = .ok (.getfield 12, 3) := by decide +kernel
theorem dX9_end_9 : decode cX9_end 9 = .ok (.getfield 45, 3) := by decide +kernel
theorem dX9_end_12 : decode cX9_end 12 = .ok (.if_icmp .le 5, 3) := by decide +kernel
theorem dX9_end_15 : decode cX9_end 15 = .ok (.iconst (-1), 1) := by decide +kernel
theorem dX9_end_16 : decode cX9_end 16 = .ok (.ireturn, 1) := by decide +kernel
theorem dX9_end_17 : decode cX9_end 17 = .ok (.aload_n 0, 1) := by decide +kernel
theorem dX9_end_18 : decode cX9_end 18 = .ok (.getfield 12, 3) := by decide +kernel
theorem dX9_end_21 : decode cX9_end 21 = .ok (.iload_n 1, 1) := by decide +kernel
theorem dX9_end_22 : decode cX9_end 22 = .ok (.putfield 45, 3) := by decide +kernel
theorem dX9_end_25 : decode cX9_end 25 = .ok (.iload_n 1, 1) := by decide +kernel
theorem dX9_end_26 : decode cX9_end 26 = .ok (.ireturn, 1) := by decide +kernel
theorem dX9_ends_0 : decode cX9_ends 0 = .ok (.aload_n 0, 1) := by decide +kernel
theorem dX9_ends_1 : decode cX9_ends 1 = .ok (.getfield 12, 3) := by decide +kernel
theorem dX9_ends_4 : decode cX9_ends 4 = .ok (.iload_n 1, 1) := by decide +kernel
theorem dX9_ends_5 : decode cX9_ends 5 = .ok (.invokevirtual 163, 3) := by decide +kernel
theorem dX9_ends_8 : decode cX9_ends 8 = .ok (.ifCond .ne 5, 3) := by decide +kernel
theorem dX9_ends_11 : decode cX9_ends 11 = .ok (.iconst (-1), 1) := by decide +kernel
theorem dX9_ends_12 : decode cX9_ends 12 = .ok (.ireturn, 1) := by decide +kernel
theorem dX9_fault_0 : decode cX9_fault 0 = .ok (.aload_n 0, 1) := by decide +kernel
theorem dX9_fault_1 : decode cX9_fault 1 = .ok (.getfield 12, 3) := by decide +kernel
theorem dX9_fault_4 : decode cX9_fault 4 = .ok (.getfield 64, 3) := by decide +kernel
theorem dX9_fault_7 : decode cX9_fault 7 = .ok (.ireturn, 1) := by decide +kernel
theorem dX9_feed_0 : decode cX9_feed 0 = .ok (.aload_n 0, 1) := by decide +kernel
theorem dX9_feed_1 : decode cX9_feed 1 = .ok (.getfield 12, 3) := by decide +kernel
theorem dX9_feed_4 : decode cX9_feed 4 = .ok (.iload_n 1, 1) := by decide +kernel
theorem dX9_feed_5 : decode cX9_feed 5 = .ok (.iload_n 2, 1) := by decide +kernel
theorem dX9_feed_6 : decode cX9_feed 6 = .ok (.iload_n 3, 1) := by decide +kernel
theorem dX9_feed_7 : decode cX9_feed 7 = .ok (.iload 4, 2) := by decide +kernel
theorem dX9_feed_9 : decode cX9_feed 9 = .ok (.iload 5, 2) := by decide +kernel
theorem dX9_feed_11 : decode cX9_feed 11 = .ok (.invokevirtual 41, 3) := by decide +kernel
theorem dX9_feed_14 : decode cX9_feed 14 = .ok (.ireturn, 1) := by decide +kernel
theorem dX9_find_0 : decode cX9_find 0 = .ok (.aload_n 0, 1) := by decide +kernel
theorem dX9_find_1 : decode cX9_find 1 = .ok (.getfield 12, 3) := by decide +kernel
theorem dX9_find_4 : decode cX9_find 4 = .ok (.aload_n 0, 1) := by decide +kernel
theorem dX9_find_5 : decode cX9_find 5 = .ok (.getfield 12, 3) := by decide +kernel
theorem dX9_find_8 : decode cX9_find 8 = .ok (.iload_n 1, 1) := by decide +kernel
theorem dX9_find_9 : decode cX9_find 9 = .ok (.iload_n 2, 1) := by decide +kernel
theorem dX9_find_10 : decode cX9_find 10 = .ok (.invokevirtual 111, 3) := by decide +kernel
theorem dX9_find_13 : decode cX9_find 13 = .ok (.invokevirtual 76, 3) := by decide +kernel
theorem dX9_find_16 : decode cX9_find 16 = .ok (.ireturn, 1) := by decide +kernel
theorem dX9_forge_0 : decode cX9_forge 0 = .ok (.aload_n 0, 1) := by decide +kernel
theorem dX9_forge_1 : decode cX9_forge 1 = .ok (.getfield 12, 3) := by decide +kernel
theorem dX9_forge_4 : decode cX9_forge 4 = .ok (.aload_n 0, 1) := by decide +kernel
theorem dX9_forge_5 : decode cX9_forge 5 = .ok (.getfield 12, 3) := by decide +kernel
theorem dX9_forge_8 : decode cX9_forge 8 = .ok (.iload_n 1, 1) := by decide +kernel
theorem dX9_forge_9 : decode cX9_forge 9 = .ok (.iload_n 2, 1) := by decide +kernel
theorem dX9_forge_10 : decode cX9_forge 10 = .ok (.iload_n 3, 1) := by decide +kernel
theorem dX9_forge_11 : decode cX9_forge 11 = .ok (.iload 4, 2) := by decide +kernel
theorem dX9_forge_13 : decode cX9_forge 13 = .ok (.iload 5, 2) := by decide +kernel
theorem dX9_forge_15 : decode cX9_forge 15 = .ok (.invokevirtual 107, 3) := by decide +kernel
theorem dX9_forge_18 : decode cX9_forge 18 = .ok (.invokevirtual 76, 3) := by decide +kernel
theorem dX9_forge_21 : decode cX9_forge 21 = .ok (.ireturn, 1) := by decide +kernel
theorem dX9_gains_0 : decode cX9_gains 0 = .ok (.aload_n 0, 1) := by decide +kernel
theorem dX9_gains_1 : decode cX9_gains 1 = .ok (.getfield 12, 3) := by decide +kernel
theorem dX9_gains_4 : decode cX9_gains 4 = .ok (.iload_n 1, 1) := by decide +kernel
theorem dX9_gains_5 : decode cX9_gains 5 = .ok (.invokevirtual 163, 3) := by decide +kernel
theorem dX9_gains_8 : decode cX9_gains 8 = .ok (.ifCond .eq 10, 3) := by decide +kernel
theorem dX9_gains_18 : decode cX9_gains 18 = .ok (.iconst 0, 1) := by decide +kernel
theorem dX9_gains_19 : decode cX9_gains 19 = .ok (.ireturn, 1) := by decide +kernel
theorem dX9_grace_0 : decode cX9_grace 0 = .ok (.aload_n 0, 1) := by decide +kernel
theorem dX9_grace_1 : decode cX9_grace 1 = .ok (.getfield 12, 3) := by decide +kernel
theorem dX9_grace_4 : decode cX9_grace 4 = .ok (.aload_n 0, 1) := by decide +kernel
theorem dX9_grace_5 : decode cX9_grace 5 = .ok (.getfield 12, 3) := by decide +kernel
theorem dX9_grace_8 : decode cX9_grace 8 = .ok (.iload_n 1, 1) := by decide +kernel
theorem dX9_grace_9 : decode cX9_grace 9 = .ok (.invokevirtual 90, 3) := by decide +kernel
theorem dX9_grace_12 : decode cX9_grace 12 = .ok (.invokevirtual 76, 3) := by decide +kernel
theorem dX9_grace_15 : decode cX9_grace 15 = .ok (.ireturn, 1) := by decide +kernel
theorem dX9_liable_0 : decode cX9_liable 0 = .ok (.aload_n 0, 1) := by decide +kernel
theorem dX9_liable_1 : decode cX9_liable 1 = .ok (.getfield 12, 3) := by decide +kernel
theorem dX9_liable_4 : decode cX9_liable 4 = .ok (.iload_n 1, 1) := by decide +kernel
theorem dX9_liable_5 : decode cX9_liable 5 = .ok (.invokevirtual 163, 3) := by decide +kernel
theorem dX9_liable_8 : decode cX9_liable 8 = .ok (.ifCond .ne 6, 3) := by decide +kernel
theorem dX9_liable_11 : decode cX9_liable 11 = .ok (.bipush (-2), 2) := by decide +kernel
theorem dX9_liable_13 : decode cX9_liable 13 = .ok (.ireturn, 1) := by decide +kernel
theorem dX9_owes_0 : decode cX9_owes 0 = .ok (.iload_n 1, 1) := by decide +kernel
theorem dX9_owes_1 : decode cX9_owes 1 = .ok (.invokestatic 155, 3) := by decide +kernel
theorem dX9_owes_4 : decode cX9_owes 4 = .ok (.ifCond .ne 5, 3) := by decide +kernel
theorem dX9_owes_7 : decode cX9_owes 7 = .ok (.iconst (-1), 1) := by decide +kernel
theorem dX9_owes_8 : decode cX9_owes 8 = .ok (.ireturn, 1) := by decide +kernel
theorem dX9_owes_9 : decode cX9_owes 9 = .ok (.iconst 0, 1) := by decide +kernel
theorem dX9_owes_10 : decode cX9_owes 10 = .ok (.istore_n 2, 1) := by decide +kernel
theorem dX9_owes_11 : decode cX9_owes 11 = .ok (.iconst 0, 1) := by decide +kernel
theorem dX9_owes_12 : decode cX9_owes 12 = .ok (.istore_n 3, 1) := by decide +kernel
theorem dX9_owes_13 : decode cX9_owes 13 = .ok (.iload_n 3, 1) := by decide +kernel
theorem dX9_owes_14 : decode cX9_owes 14 = .ok (.aload_n 0, 1) := by decide +kernel
theorem dX9_owes_15 : decode cX9_owes 15 = .ok (.getfield 12, 3) := by decide +kernel
theorem dX9_owes_18 : decode cX9_owes 18 = .ok (.getfield 97, 3) := by decide +kernel
theorem dX9_owes_21 : decode cX9_owes 21 = .ok (.if_icmp .ge 47, 3) := by decide +kernel
theorem dX9_owes_68 : decode cX9_owes 68 = .ok (.iload_n 2, 1) := by decide +kernel
theorem dX9_owes_69 : decode cX9_owes 69 = .ok (.ireturn, 1) := by decide +kernel
theorem dX9_party_0 : decode cX9_party 0 = .ok (.aload_n 0, 1) := by decide +kernel
theorem dX9_party_1 : decode cX9_party 1 = .ok (.getfield 12, 3) := by decide +kernel
theorem dX9_party_4 : decode cX9_party 4 = .ok (.iload_n 1, 1) := by decide +kernel
theorem dX9_party_5 : decode cX9_party 5 = .ok (.iload_n 2, 1) := by decide +kernel
theorem dX9_party_6 : decode cX9_party 6 = .ok (.invokevirtual 278, 3) := by decide +kernel
theorem dX9_party_9 : decode cX9_party 9 = .ok (.ifCond .ne 6, 3) := by decide +kernel
theorem dX9_party_12 : decode cX9_party 12 = .ok (.bipush (-2), 2) := by decide +kernel
theorem dX9_party_14 : decode cX9_party 14 = .ok (.ireturn, 1) := by decide +kernel
theorem dX9_pass_0 : decode cX9_pass 0 = .ok (.iload_n 2, 1) := by decide +kernel
theorem dX9_pass_1 : decode cX9_pass 1 = .ok (.bipush 10, 2) := by decide +kernel
theorem dX9_pass_3 : decode cX9_pass 3 = .ok (.if_icmp .lt 7, 3) := by decide +kernel
theorem dX9_pass_6 : decode cX9_pass 6 = .ok (.iconst 1, 1) := by decide +kernel
theorem dX9_pass_7 : decode cX9_pass 7 = .ok (.goto 4, 3) := by decide +kernel
theorem dX9_pass_10 : decode cX9_pass 10 = .ok (.iconst 0, 1) := by decide +kernel
theorem dX9_pass_11 : decode cX9_pass 11 = .ok (.istore 6, 2) := by decide +kernel
theorem dX9_pass_13 : decode cX9_pass 13 = .ok (.aload_n 0, 1) := by decide +kernel
theorem dX9_pass_14 : decode cX9_pass 14 = .ok (.getfield 12, 3) := by decide +kernel
theorem dX9_pass_17 : decode cX9_pass 17 = .ok (.aload_n 0, 1) := by decide +kernel
theorem dX9_pass_18 : decode cX9_pass 18 = .ok (.getfield 12, 3) := by decide +kernel
theorem dX9_pass_21 : decode cX9_pass 21 = .ok (.iload_n 1, 1) := by decide +kernel
theorem dX9_pass_22 : decode cX9_pass 22 = .ok (.iload 6, 2) := by decide +kernel
theorem dX9_pass_24 : decode cX9_pass 24 = .ok (.ifCond .eq 10, 3) := by decide +kernel
theorem dX9_pass_27 : decode cX9_pass 27 = .ok (.iload_n 2, 1) := by decide +kernel
theorem dX9_pass_28 : decode cX9_pass 28 = .ok (.bipush 10, 2) := by decide +kernel
theorem dX9_pass_30 : decode cX9_pass 30 = .ok (.isub, 1) := by decide +kernel
theorem dX9_pass_31 : decode cX9_pass 31 = .ok (.goto 4, 3) := by decide +kernel
theorem dX9_pass_34 : decode cX9_pass 34 = .ok (.iload_n 2, 1) := by decide +kernel
theorem dX9_pass_35 : decode cX9_pass 35 = .ok (.iload_n 3, 1) := by decide +kernel
theorem dX9_pass_36 : decode cX9_pass 36 = .ok (.iload 4, 2) := by decide +kernel
theorem dX9_pass_38 : decode cX9_pass 38 = .ok (.iload 5, 2) := by decide +kernel
theorem dX9_pass_40 : decode cX9_pass 40 = .ok (.iload 6, 2) := by decide +kernel
theorem dX9_pass_42 : decode cX9_pass 42 = .ok (.invokevirtual 103, 3) := by decide +kernel
theorem dX9_pass_45 : decode cX9_pass 45 = .ok (.invokevirtual 76, 3) := by decide +kernel
theorem dX9_pass_48 : decode cX9_pass 48 = .ok (.ireturn, 1) := by decide +kernel
theorem dX9_pay_0 : decode cX9_pay 0 = .ok (.aload_n 0, 1) := by decide +kernel
theorem dX9_pay_1 : decode cX9_pay 1 = .ok (.getfield 12, 3) := by decide +kernel
theorem dX9_pay_4 : decode cX9_pay 4 = .ok (.aload_n 0, 1) := by decide +kernel
theorem dX9_pay_5 : decode cX9_pay 5 = .ok (.getfield 12, 3) := by decide +kernel
theorem dX9_pay_8 : decode cX9_pay 8 = .ok (.iload_n 1, 1) := by decide +kernel
theorem dX9_pay_9 : decode cX9_pay 9 = .ok (.iload_n 2, 1) := by decide +kernel
theorem dX9_pay_10 : decode cX9_pay 10 = .ok (.invokevirtual 131, 3) := by decide +kernel
theorem dX9_pay_13 : decode cX9_pay 13 = .ok (.invokevirtual 76, 3) := by decide +kernel
theorem dX9_pay_16 : decode cX9_pay 16 = .ok (.ireturn, 1) := by decide +kernel
theorem dX9_present_0 : decode cX9_present 0 = .ok (.aload_n 0, 1) := by decide +kernel
theorem dX9_present_1 : decode cX9_present 1 = .ok (.getfield 12, 3) := by decide +kernel
theorem dX9_present_4 : decode cX9_present 4 = .ok (.iload_n 1, 1) := by decide +kernel
theorem dX9_present_5 : decode cX9_present 5 = .ok (.invokevirtual 118, 3) := by decide +kernel
theorem dX9_present_8 : decode cX9_present 8 = .ok (.istore_n 2, 1) := by decide +kernel
theorem dX9_present_9 : decode cX9_present 9 = .ok (.aload_n 0, 1) := by decide +kernel
theorem dX9_present_10 : decode cX9_present 10 = .ok (.getfield 12, 3) := by decide +kernel
theorem dX9_present_13 : decode cX9_present 13 = .ok (.iload_n 2, 1) := by decide +kernel
theorem dX9_present_14 : decode cX9_present 14 = .ok (.invokestatic 121, 3) := by decide +kernel
theorem dX9_present_17 : decode cX9_present 17 = .ok (.invokevirtual 76, 3) := by decide +kernel
theorem dX9_present_20 : decode cX9_present 20 = .ok (.pop, 1) := by decide +kernel
theorem dX9_present_21 : decode cX9_present 21 = .ok (.iload_n 2, 1) := by decide +kernel
theorem dX9_present_22 : decode cX9_present 22 = .ok (.ireturn, 1) := by decide +kernel
theorem dX9_reach_0 : decode cX9_reach 0 = .ok (.aload_n 0, 1) := by decide +kernel
theorem dX9_reach_1 : decode cX9_reach 1 = .ok (.getfield 12, 3) := by decide +kernel
theorem dX9_reach_4 : decode cX9_reach 4 = .ok (.iload_n 1, 1) := by decide +kernel
theorem dX9_reach_5 : decode cX9_reach 5 = .ok (.invokevirtual 163, 3) := by decide +kernel
theorem dX9_reach_8 : decode cX9_reach 8 = .ok (.ifCond .ne 6, 3) := by decide +kernel
theorem dX9_reach_11 : decode cX9_reach 11 = .ok (.bipush (-2), 2) := by decide +kernel
theorem dX9_reach_13 : decode cX9_reach 13 = .ok (.ireturn, 1) := by decide +kernel
theorem dX9_refused_0 : decode cX9_refused 0 = .ok (.aload_n 0, 1) := by decide +kernel
theorem dX9_refused_1 : decode cX9_refused 1 = .ok (.getfield 12, 3) := by decide +kernel
theorem dX9_refused_4 : decode cX9_refused 4 = .ok (.getfield 80, 3) := by decide +kernel
theorem dX9_refused_7 : decode cX9_refused 7 = .ok (.ireturn, 1) := by decide +kernel
theorem dX9_release_0 : decode cX9_release 0 = .ok (.aload_n 0, 1) := by decide +kernel
theorem dX9_release_1 : decode cX9_release 1 = .ok (.getfield 12, 3) := by decide +kernel
theorem dX9_release_4 : decode cX9_release 4 = .ok (.aload_n 0, 1) := by decide +kernel
theorem dX9_release_5 : decode cX9_release 5 = .ok (.getfield 12, 3) := by decide +kernel
theorem dX9_release_8 : decode cX9_release 8 = .ok (.iload_n 1, 1) := by decide +kernel
theorem dX9_release_9 : decode cX9_release 9 = .ok (.iload_n 2, 1) := by decide +kernel
theorem dX9_release_10 : decode cX9_release 10 = .ok (.invokevirtual 128, 3) := by decide +kernel
theorem dX9_release_13 : decode cX9_release 13 = .ok (.invokevirtual 76, 3) := by decide +kernel
theorem dX9_release_16 : decode cX9_release 16 = .ok (.ireturn, 1) := by decide +kernel
theorem dX9_run_0 : decode cX9_run 0 = .ok (.aload_n 0, 1) := by decide +kernel
theorem dX9_run_1 : decode cX9_run 1 = .ok (.getfield 12, 3) := by decide +kernel
theorem dX9_run_4 : decode cX9_run 4 = .ok (.iload_n 1, 1) := by decide +kernel
theorem dX9_run_5 : decode cX9_run 5 = .ok (.invokevirtual 163, 3) := by decide +kernel
theorem dX9_run_8 : decode cX9_run 8 = .ok (.ifCond .ne 6, 3) := by decide +kernel
theorem dX9_run_11 : decode cX9_run 11 = .ok (.bipush (-2), 2) := by decide +kernel
theorem dX9_run_13 : decode cX9_run 13 = .ok (.ireturn, 1) := by decide +kernel
theorem dX9_sorts_0 : decode cX9_sorts 0 = .ok (.aload_n 0, 1) := by decide +kernel
theorem dX9_sorts_1 : decode cX9_sorts 1 = .ok (.getfield 12, 3) := by decide +kernel
theorem dX9_sorts_4 : decode cX9_sorts 4 = .ok (.iload_n 1, 1) := by decide +kernel
theorem dX9_sorts_5 : decode cX9_sorts 5 = .ok (.invokevirtual 163, 3) := by decide +kernel
theorem dX9_sorts_8 : decode cX9_sorts 8 = .ok (.ifCond .eq 12, 3) := by decide +kernel
theorem dX9_sorts_20 : decode cX9_sorts 20 = .ok (.bipush (-2), 2) := by decide +kernel
theorem dX9_sorts_22 : decode cX9_sorts 22 = .ok (.ireturn, 1) := by decide +kernel
theorem dX9_step_0 : decode cX9_step 0 = .ok (.aload_n 0, 1) := by decide +kernel
theorem dX9_step_1 : decode cX9_step 1 = .ok (.getfield 12, 3) := by decide +kernel
theorem dX9_step_4 : decode cX9_step 4 = .ok (.iload_n 1, 1) := by decide +kernel
theorem dX9_step_5 : decode cX9_step 5 = .ok (.invokevirtual 163, 3) := by decide +kernel
theorem dX9_step_8 : decode cX9_step 8 = .ok (.ifCond .eq 19, 3) := by decide +kernel
theorem dX9_step_27 : decode cX9_step 27 = .ok (.bipush (-2), 2) := by decide +kernel
theorem dX9_step_29 : decode cX9_step 29 = .ok (.ireturn, 1) := by decide +kernel
theorem dX9_tell_0 : decode cX9_tell 0 = .ok (.aload_n 0, 1) := by decide +kernel
theorem dX9_tell_1 : decode cX9_tell 1 = .ok (.getfield 12, 3) := by decide +kernel
theorem dX9_tell_4 : decode cX9_tell 4 = .ok (.aload_n 0, 1) := by decide +kernel
theorem dX9_tell_5 : decode cX9_tell 5 = .ok (.getfield 12, 3) := by decide +kernel
theorem dX9_tell_8 : decode cX9_tell 8 = .ok (.iload_n 1, 1) := by decide +kernel
theorem dX9_tell_9 : decode cX9_tell 9 = .ok (.iload_n 2, 1) := by decide +kernel
theorem dX9_tell_10 : decode cX9_tell 10 = .ok (.iload_n 3, 1) := by decide +kernel
theorem dX9_tell_11 : decode cX9_tell 11 = .ok (.invokevirtual 124, 3) := by decide +kernel
theorem dX9_tell_14 : decode cX9_tell 14 = .ok (.invokevirtual 76, 3) := by decide +kernel
theorem dX9_tell_17 : decode cX9_tell 17 = .ok (.ireturn, 1) := by decide +kernel
theorem dX9_until_0 : decode cX9_until 0 = .ok (.aload_n 0, 1) := by decide +kernel
theorem dX9_until_1 : decode cX9_until 1 = .ok (.getfield 12, 3) := by decide +kernel
theorem dX9_until_4 : decode cX9_until 4 = .ok (.iload_n 1, 1) := by decide +kernel
theorem dX9_until_5 : decode cX9_until 5 = .ok (.iload_n 2, 1) := by decide +kernel
theorem dX9_until_6 : decode cX9_until 6 = .ok (.invokevirtual 278, 3) := by decide +kernel
theorem dX9_until_9 : decode cX9_until 9 = .ok (.ifCond .eq 26, 3) := by decide +kernel
theorem dX9_until_35 : decode cX9_until 35 = .ok (.iconst (-1), 1) := by decide +kernel
theorem dX9_until_36 : decode cX9_until 36 = .ok (.ireturn, 1) := by decide +kernel
theorem dX9_why_0 : decode cX9_why 0 = .ok (.aload_n 0, 1) := by decide +kernel
theorem dX9_why_1 : decode cX9_why 1 = .ok (.getfield 12, 3) := by decide +kernel
theorem dX9_why_4 : decode cX9_why 4 = .ok (.iload_n 1, 1) := by decide +kernel
theorem dX9_why_5 : decode cX9_why 5 = .ok (.iload_n 2, 1) := by decide +kernel
theorem dX9_why_6 : decode cX9_why 6 = .ok (.invokevirtual 278, 3) := by decide +kernel
theorem dX9_why_9 : decode cX9_why 9 = .ok (.ifCond .eq 23, 3) := by decide +kernel
theorem dX9_why_32 : decode cX9_why 32 = .ok (.bipush (-2), 2) := by decide +kernel
theorem dX9_why_34 : decode cX9_why 34 = .ok (.ireturn, 1) := by decide +kernel
theorem dX9_worth_0 : decode cX9_worth 0 = .ok (.iload_n 1, 1) := by decide +kernel
theorem dX9_worth_1 : decode cX9_worth 1 = .ok (.invokestatic 155, 3) := by decide +kernel
theorem dX9_worth_4 : decode cX9_worth 4 = .ok (.ifCond .ne 5, 3) := by decide +kernel
theorem dX9_worth_7 : decode cX9_worth 7 = .ok (.iconst (-1), 1) := by decide +kernel
theorem dX9_worth_8 : decode cX9_worth 8 = .ok (.ireturn, 1) := by decide +kernel
theorem dX9_worth_9 : decode cX9_worth 9 = .ok (.iconst 0, 1) := by decide +kernel
theorem dX9_worth_10 : decode cX9_worth 10 = .ok (.istore_n 2, 1) := by decide +kernel
theorem dX9_worth_11 : decode cX9_worth 11 = .ok (.iconst 0, 1) := by decide +kernel
theorem dX9_worth_12 : decode cX9_worth 12 = .ok (.istore_n 3, 1) := by decide +kernel
theorem dX9_worth_13 : decode cX9_worth 13 = .ok (.iload_n 3, 1) := by decide +kernel
theorem dX9_worth_14 : decode cX9_worth 14 = .ok (.aload_n 0, 1) := by decide +kernel
theorem dX9_worth_15 : decode cX9_worth 15 = .ok (.getfield 12, 3) := by decide +kernel
theorem dX9_worth_18 : decode cX9_worth 18 = .ok (.getfield 97, 3) := by decide +kernel
theorem dX9_worth_21 : decode cX9_worth 21 = .ok (.if_icmp .ge 60, 3) := by decide +kernel
theorem dX9_worth_81 : decode cX9_worth 81 = .ok (.iload_n 2, 1) := by decide +kernel
theorem dX9_worth_82 : decode cX9_worth 82 = .ok (.ireturn, 1) := by decide +kernel
end
section
theorem flX9_12 : FL RX9 12 7 0 (.object "BillRegistry$World") true := ⟨RX9, TX9, 5, tyX9, rfl, by decide, TB_t 373 (by decide +kernel) rfl, inX9, tyX9_ok, nmX9, rfl, rfl⟩
theorem flX9_134 : FL RX9 134 6 0 .int false := ⟨RX8, TX8, 11, tyX8, rfl, by decide, TB_t 247 (by decide +kernel) rfl, inX8, tyX8_ok, nmX8, rfl, rfl⟩
theorem flX9_137 : FL RX9 137 6 1 .int false := ⟨RX8, TX8, 11, tyX8, rfl, by decide, TB_t 249 (by decide +kernel) rfl, inX8, tyX8_ok, nmX8, rfl, rfl⟩
theorem flX9_143 : FL RX9 143 6 3 .int false := ⟨RX8, TX8, 11, tyX8, rfl, by decide, TB_t 253 (by decide +kernel) rfl, inX8, tyX8_ok, nmX8, rfl, rfl⟩
theorem flX9_152 : FL RX9 152 6 4 .int false := ⟨RX8, TX8, 11, tyX8, rfl, by decide, TB_t 255 (by decide +kernel) rfl, inX8, tyX8_ok, nmX8, rfl, rfl⟩
theorem flX9_159 : FL RX9 159 6 8 (.array .int) true := ⟨RX8, TX8, 11, tyX8, rfl, by decide, TB_t 263 (by decide +kernel) rfl, inX8, tyX8_ok, nmX8, rfl, rfl⟩
theorem flX9_45 : FL RX9 45 6 6 .int false := ⟨RX8, TX8, 11, tyX8, rfl, by decide, TB_t 259 (by decide +kernel) rfl, inX8, tyX8_ok, nmX8, rfl, rfl⟩
theorem flX9_64 : FL RX9 64 6 7 .int false := ⟨RX8, TX8, 11, tyX8, rfl, by decide, TB_t 261 (by decide +kernel) rfl, inX8, tyX8_ok, nmX8, rfl, rfl⟩
theorem flX9_80 : FL RX9 80 6 5 .int false := ⟨RX8, TX8, 11, tyX8, rfl, by decide, TB_t 257 (by decide +kernel) rfl, inX8, tyX8_ok, nmX8, rfl, rfl⟩
theorem flX9_97 : FL RX9 97 6 2 .int false := ⟨RX8, TX8, 11, tyX8, rfl, by decide, TB_t 251 (by decide +kernel) rfl, inX8, tyX8_ok, nmX8, rfl, rfl⟩
theorem mlX9_100 : MLV RX9 100 yX8_acceptOne cX8_acceptOne 3 (some .int) 1 := ⟨TB_t 563 (by decide +kernel) rfl, TB_t 566 (by decide +kernel) rfl, TB_t 2 (by decide +kernel) rfl, ⟨by decide, by decide, by decide +kernel⟩, TB_t 564 (by decide +kernel) rfl, TB_t 565 (by decide +kernel) rfl⟩
theorem mlX9_103 : MLV RX9 103 yX8_passOn cX8_passOn 10 (some .int) 6 := ⟨TB_t 571 (by decide +kernel) rfl, TB_t 574 (by decide +kernel) rfl, TB_t 2 (by decide +kernel) rfl, ⟨by decide, by decide, by decide +kernel⟩, TB_t 572 (by decide +kernel) rfl, TB_t 573 (by decide +kernel) rfl⟩
theorem mlX9_107 : MLV RX9 107 yX8_passForged cX8_passForged 9 (some .int) 5 := ⟨TB_t 619 (by decide +kernel) rfl, TB_t 622 (by decide +kernel) rfl, TB_t 2 (by decide +kernel) rfl, ⟨by decide, by decide, by decide +kernel⟩, TB_t 620 (by decide +kernel) rfl, TB_t 621 (by decide +kernel) rfl⟩
theorem mlX9_111 : MLV RX9 111 yX8_findOne cX8_findOne 5 (some .int) 2 := ⟨TB_t 623 (by decide +kernel) rfl, TB_t 626 (by decide +kernel) rfl, TB_t 2 (by decide +kernel) rfl, ⟨by decide, by decide, by decide +kernel⟩, TB_t 624 (by decide +kernel) rfl, TB_t 625 (by decide +kernel) rfl⟩
theorem mlX9_114 : MLV RX9 114 yX8_giveDefence cX8_giveDefence 6 (some .int) 3 := ⟨TB_t 627 (by decide +kernel) rfl, TB_t 630 (by decide +kernel) rfl, TB_t 2 (by decide +kernel) rfl, ⟨by decide, by decide, by decide +kernel⟩, TB_t 628 (by decide +kernel) rfl, TB_t 629 (by decide +kernel) rfl⟩
theorem mlX9_118 : MLV RX9 118 yX8_presentOne cX8_presentOne 3 (some .int) 1 := ⟨TB_t 655 (by decide +kernel) rfl, TB_t 658 (by decide +kernel) rfl, TB_t 2 (by decide +kernel) rfl, ⟨by decide, by decide, by decide +kernel⟩, TB_t 656 (by decide +kernel) rfl, TB_t 657 (by decide +kernel) rfl⟩
theorem mlX9_121 : MLS RX9 121 yX9_refusalOf cX9_refusalOf 1 (some .int) 1 := ⟨TB_t 707 (by decide +kernel) rfl, TB_t 709 (by decide +kernel) rfl, TB_t 1 (by decide +kernel) rfl, ⟨by decide, by decide, by decide +kernel⟩, TB_t 708 (by decide +kernel) rfl⟩
theorem mlX9_124 : MLV RX9 124 yX8_giveNotice cX8_giveNotice 5 (some .int) 3 := ⟨TB_t 710 (by decide +kernel) rfl, TB_t 713 (by decide +kernel) rfl, TB_t 2 (by decide +kernel) rfl, ⟨by decide, by decide, by decide +kernel⟩, TB_t 711 (by decide +kernel) rfl, TB_t 712 (by decide +kernel) rfl⟩
theorem mlX9_128 : MLV RX9 128 yX8_releaseOne cX8_releaseOne 4 (some .int) 2 := ⟨TB_t 719 (by decide +kernel) rfl, TB_t 722 (by decide +kernel) rfl, TB_t 2 (by decide +kernel) rfl, ⟨by decide, by decide, by decide +kernel⟩, TB_t 720 (by decide +kernel) rfl, TB_t 721 (by decide +kernel) rfl⟩
theorem mlX9_131 : MLV RX9 131 yX8_payOne cX8_payOne 5 (some .int) 2 := ⟨TB_t 724 (by decide +kernel) rfl, TB_t 727 (by decide +kernel) rfl, TB_t 2 (by decide +kernel) rfl, ⟨by decide, by decide, by decide +kernel⟩, TB_t 725 (by decide +kernel) rfl, TB_t 726 (by decide +kernel) rfl⟩
theorem mlX9_140 : MLV RX9 140 yX8_cashOfAll cX8_cashOfAll 3 (some .int) 0 := ⟨TB_t 796 (by decide +kernel) rfl, TB_t 799 (by decide +kernel) rfl, TB_t 2 (by decide +kernel) rfl, ⟨by decide, by decide, by decide +kernel⟩, TB_t 797 (by decide +kernel) rfl, TB_t 798 (by decide +kernel) rfl⟩
theorem mlX9_146 : MLV RX9 146 yX8_dishonouredBills cX8_dishonouredBills 3 (some .int) 0 := ⟨TB_t 800 (by decide +kernel) rfl, TB_t 803 (by decide +kernel) rfl, TB_t 2 (by decide +kernel) rfl, ⟨by decide, by decide, by decide +kernel⟩, TB_t 801 (by decide +kernel) rfl, TB_t 802 (by decide +kernel) rfl⟩
theorem mlX9_149 : MLV RX9 149 yX8_doneBills cX8_doneBills 3 (some .int) 0 := ⟨TB_t 807 (by decide +kernel) rfl, TB_t 810 (by decide +kernel) rfl, TB_t 2 (by decide +kernel) rfl, ⟨by decide, by decide, by decide +kernel⟩, TB_t 808 (by decide +kernel) rfl, TB_t 809 (by decide +kernel) rfl⟩
theorem mlX9_155 : MLS RX9 155 yX9_isPerson cX9_isPerson 1 (some .boolean) 1 := ⟨TB_t 811 (by decide +kernel) rfl, TB_t 532 (by decide +kernel) rfl, TB_t 1 (by decide +kernel) rfl, ⟨by decide, by decide, by decide +kernel⟩, TB_t 531 (by decide +kernel) rfl⟩
theorem mlX9_163 : MLV RX9 163 yX8_hasBill cX8_hasBill 2 (some .boolean) 1 := ⟨TB_t 816 (by decide +kernel) rfl, TB_t 570 (by decide +kernel) rfl, TB_t 2 (by decide +kernel) rfl, ⟨by decide, by decide, by decide +kernel⟩, TB_t 568 (by decide +kernel) rfl, TB_t 569 (by decide +kernel) rfl⟩
theorem mlX9_278 : MLV RX9 278 yX8_hasParty cX8_hasParty 3 (some .boolean) 2 := ⟨TB_t 841 (by decide +kernel) rfl, TB_t 638 (by decide +kernel) rfl, TB_t 2 (by decide +kernel) rfl, ⟨by decide, by decide, by decide +kernel⟩, TB_t 636 (by decide +kernel) rfl, TB_t 637 (by decide +kernel) rfl⟩
theorem mlX9_41 : MLV RX9 41 yX8_addBytes cX8_addBytes 6 (some .int) 5 := ⟨TB_t 393 (by decide +kernel) rfl, TB_t 396 (by decide +kernel) rfl, TB_t 2 (by decide +kernel) rfl, ⟨by decide, by decide, by decide +kernel⟩, TB_t 394 (by decide +kernel) rfl, TB_t 395 (by decide +kernel) rfl⟩
theorem mlX9_76 : MLV RX9 76 yX8_note cX8_note 2 (some .int) 1 := ⟨TB_t 728 (by decide +kernel) rfl, TB_t 731 (by decide +kernel) rfl, TB_t 2 (by decide +kernel) rfl, ⟨by decide, by decide, by decide +kernel⟩, TB_t 729 (by decide +kernel) rfl, TB_t 730 (by decide +kernel) rfl⟩
theorem mlX9_83 : MLV RX9 83 yX8_goOn cX8_goOn 2 (some .int) 1 := ⟨TB_t 522 (by decide +kernel) rfl, TB_t 525 (by decide +kernel) rfl, TB_t 2 (by decide +kernel) rfl, ⟨by decide, by decide, by decide +kernel⟩, TB_t 523 (by decide +kernel) rfl, TB_t 524 (by decide +kernel) rfl⟩
theorem mlX9_86 : MLV RX9 86 yX8_setCash cX8_setCash 3 (some .int) 2 := ⟨TB_t 526 (by decide +kernel) rfl, TB_t 529 (by decide +kernel) rfl, TB_t 2 (by decide +kernel) rfl, ⟨by decide, by decide, by decide +kernel⟩, TB_t 527 (by decide +kernel) rfl, TB_t 528 (by decide +kernel) rfl⟩
theorem mlX9_90 : MLV RX9 90 yX8_setGrace cX8_setGrace 2 (some .int) 1 := ⟨TB_t 533 (by decide +kernel) rfl, TB_t 536 (by decide +kernel) rfl, TB_t 2 (by decide +kernel) rfl, ⟨by decide, by decide, by decide +kernel⟩, TB_t 534 (by decide +kernel) rfl, TB_t 535 (by decide +kernel) rfl⟩
end
section
set_option maxHeartbeats 4000000 in
set_option maxRecDepth 100000 in
theorem c_X9_feed {l : Launch} {D : va_G} {kA : Nat → ClassId} {M : mM} {T : mT} {sz : Nat} {ro im rd rc cu : Nat} {w cs bs tp : Nat} {a b c_ d e_ : Int32} (hc_ro : M ro = some (.inr (7, [.ref w, .ref im, .ref rd, .ref rc, .ref cu]))) (hc_w : M w = some (.inr (6, [.int 0, .int 2, .int 0, .int 0, .int 0, .int 0, .int 0, .int (-1), .ref cs, .ref bs, .ref tp]))) (ht_tp : T tp = some 7) : mCi l yX9_feed cX9_feed 6 (some .int) 2 0 0 D kA M T sz [.ref ro, .int a, .int b, .int c_, .int d, .int e_] (fun r u => (r = 20) ∧ u.2 = T ∧ (∀ q, q ≠ w → u.1 q = M q)) := by
  unfold mCi
  refine start_W (by decide) (Nat.le_of_ble_eq_true rfl) ?_
  intro p e s m below meth c ls hC hr hlk hnm hK hH hsz hl
  have hx := hC.1
  have hb := hC.2.1
  have hl : lv_has ls 6 [(0, .ref ro), (1, .int a), (2, .int b), (3, .int c_), (4, .int d), (5, .int e_)] := hl
  have hF : ∀ q, q ≠ w → M q = M q := fun q _ => rfl
  have n_ro_w : ro ≠ w := neM hc_ro hc_w (by simp)
  have n_w_ro : w ≠ ro := neM hc_w hc_ro (by simp)
  refine lv_aload_n hx hb dX9_feed_0 rfl (lv_at hl 0 rfl) ?_
  refine xg hC hK hH flX9_12 hc_ro rfl dX9_feed_1 ?_
  refine lv_iload_n hx hb dX9_feed_4 rfl (lv_at hl 1 rfl) ?_
  refine lv_iload_n hx hb dX9_feed_5 rfl (lv_at hl 2 rfl) ?_
  refine lv_iload_n hx hb dX9_feed_6 rfl (lv_at hl 3 rfl) ?_
  refine lv_iload hx hb dX9_feed_7 (lv_at hl 4 rfl) ?_
  refine lv_iload hx hb dX9_feed_9 (lv_at hl 5 rfl) ?_
  refine goI hK hH (runV (As := [.int a, .int b, .int c_, .int d, .int e_]) (rest := []) hC hK hH (c_X8_addBytes hc_w ht_tp) mlX9_41 (rcvM hK hH hc_w rfl) ⟨⟨Nat.le_of_ble_eq_true rfl, Nat.le_of_ble_eq_true rfl⟩, Nat.le_of_ble_eq_true rfl, Nat.le_of_ble_eq_true rfl⟩ rfl hl.1 rfl (Nat.le_of_ble_eq_true rfl) dX9_feed_11) (fun r3 M1 T2 H locs hP hz hH => ?_)
  try dsimp only at hP
  obtain ⟨(⟨rfl, hx_w⟩), eT, hfr⟩ := hP
  have eT := eT.symm; subst eT
  have hc_ro : M1 ro = some (.inr (7, [.ref w, .ref im, .ref rd, .ref rc, .ref cu])) := (hfr ro n_ro_w).trans hc_ro
  have hc_w : M1 w = some (.inr (6, [.int 0, .int 2, .int 0, .int 0, .int 0, .int 0, .int 20, .int (-1), .ref cs, .ref bs, .ref tp])) := hx_w
  have hF : ∀ q, q ≠ w → M1 q = M q := fun q h0 => (hfr q h0).trans (hF q h0)
  exact ret_i hC hr hlk hK hH (⟨rfl, rfl, hF⟩) (Nat.le_of_ble_eq_true rfl) (Nat.le_of_ble_eq_true rfl) dX9_feed_14
set_option maxHeartbeats 4000000 in
set_option maxRecDepth 100000 in
theorem c_X9_end {l : Launch} {D : va_G} {kA : Nat → ClassId} {M : mM} {T : mT} {sz : Nat} {ro im rd rc cu : Nat} {w cs bs tp : Nat} {n : Int32} (hc_ro : M ro = some (.inr (7, [.ref w, .ref im, .ref rd, .ref rc, .ref cu]))) (hc_w : M w = some (.inr (6, [.int 0, .int 2, .int 0, .int 0, .int 0, .int 0, .int 0, .int (-1), .ref cs, .ref bs, .ref tp]))) : mCi l yX9_end cX9_end 2 (some .int) 0 0 0 D kA M T sz [.ref ro, .int n] (fun r u => ((n.toInt = 0 ∧ r = 0) ∨ (n.toInt ≠ 0 ∧ r = -1)) ∧ u.2 = T ∧ (∀ q, q ≠ w → u.1 q = M q)) := by
  unfold mCi
  refine start_W (by decide) (Nat.le_of_ble_eq_true rfl) ?_
  intro p e s m below meth c ls hC hr hlk hnm hK hH hsz hl
  have hx := hC.1
  have hb := hC.2.1
  have hl : lv_has ls 2 [(0, .ref ro), (1, .int n)] := hl
  have hF : ∀ q, q ≠ w → M q = M q := fun q _ => rfl
  have n_ro_w : ro ≠ w := neM hc_ro hc_w (by simp)
  have n_w_ro : w ≠ ro := neM hc_w hc_ro (by simp)
  refine lv_iload_n hx hb dX9_end_0 rfl (lv_at hl 1 rfl) ?_
  refine jif_lt (tgt := 15) hx hb dX9_end_1 (by decide) (fun c1 => ?_) (fun c1 => ?_)
  · skip
    have c1 : n.toInt < 0 := c1
    refine lv_iconst (v := -1) hx hb dX9_end_15 (by decide) ?_
    exact ret_i hC hr hlk hK hH (⟨Or.inr (⟨by omega, rfl⟩), rfl, hF⟩) (Nat.le_of_ble_eq_true rfl) (Nat.le_of_ble_eq_true rfl) dX9_end_16
  · skip
    have c1 : 0 ≤ n.toInt := c1
    refine lv_iload_n hx hb dX9_end_4 rfl (lv_at hl 1 rfl) ?_
    refine lv_aload_n hx hb dX9_end_5 rfl (lv_at hl 0 rfl) ?_
    refine xg hC hK hH flX9_12 hc_ro rfl dX9_end_6 ?_
    refine xg hC hK hH flX9_45 hc_w rfl dX9_end_9 ?_
    refine jic_le (tgt := 17) hx hb dX9_end_12 (by decide) (fun c2 => ?_) (fun c2 => ?_)
    · skip
      have c2 : n.toInt ≤ 0 := c2
      refine lv_aload_n hx hb dX9_end_17 rfl (lv_at hl 0 rfl) ?_
      refine xg hC hK hH flX9_12 hc_ro rfl dX9_end_18 ?_
      refine lv_iload_n hx hb dX9_end_21 rfl (lv_at hl 1 rfl) ?_
      refine yp (v := .int n) hC hK hH flX9_45 hc_w rfl rfl (Nat.le_of_ble_eq_true rfl) dX9_end_22 (fun H locs M3 hc_w hfr hH => ?_)
      have hc_w : M3 w = some (.inr (6, [.int 0, .int 2, .int 0, .int 0, .int 0, .int 0, .int n, .int (-1), .ref cs, .ref bs, .ref tp])) := hc_w
      have hc_ro : M3 ro = some (.inr (7, [.ref w, .ref im, .ref rd, .ref rc, .ref cu])) := (hfr ro n_ro_w).trans hc_ro
      have hF : ∀ q, q ≠ w → M3 q = M q := fun q h0 => (hfr q h0).trans (hF q h0)
      refine lv_iload_n hx hb dX9_end_25 rfl (lv_at hl 1 rfl) ?_
      exact ret_i hC hr hlk hK hH (⟨Or.inl (⟨by omega, iEq.mpr (by have : (0 : Int32).toInt = 0 := rfl; omega)⟩), rfl, hF⟩) (Nat.le_of_ble_eq_true rfl) (Nat.le_of_ble_eq_true rfl) dX9_end_26
    · skip
      have c2 : 0 < n.toInt := c2
      refine lv_iconst (v := -1) hx hb dX9_end_15 (by decide) ?_
      exact ret_i hC hr hlk hK hH (⟨Or.inr (⟨by omega, rfl⟩), rfl, hF⟩) (Nat.le_of_ble_eq_true rfl) (Nat.le_of_ble_eq_true rfl) dX9_end_16
set_option maxHeartbeats 4000000 in
set_option maxRecDepth 100000 in
theorem c_X9_fault {l : Launch} {D : va_G} {kA : Nat → ClassId} {M : mM} {T : mT} {sz : Nat} {ro im rd rc cu : Nat} {w cs bs tp : Nat} (hc_ro : M ro = some (.inr (7, [.ref w, .ref im, .ref rd, .ref rc, .ref cu]))) (hc_w : M w = some (.inr (6, [.int 0, .int 2, .int 0, .int 0, .int 0, .int 0, .int 0, .int (-1), .ref cs, .ref bs, .ref tp]))) : mCi l yX9_fault cX9_fault 1 (some .int) 0 0 0 D kA M T sz [.ref ro] (fun r u => (r = -1) ∧ u.2 = T ∧ u.1 = M) := by
  unfold mCi
  refine start_W (by decide) (Nat.le_of_ble_eq_true rfl) ?_
  intro p e s m below meth c ls hC hr hlk hnm hK hH hsz hl
  have hx := hC.1
  have hb := hC.2.1
  have hl : lv_has ls 1 [(0, .ref ro)] := hl
  have n_ro_w : ro ≠ w := neM hc_ro hc_w (by simp)
  have n_w_ro : w ≠ ro := neM hc_w hc_ro (by simp)
  refine lv_aload_n hx hb dX9_fault_0 rfl (lv_at hl 0 rfl) ?_
  refine xg hC hK hH flX9_12 hc_ro rfl dX9_fault_1 ?_
  refine xg hC hK hH flX9_64 hc_w rfl dX9_fault_4 ?_
  exact ret_i hC hr hlk hK hH (⟨rfl, rfl, rfl⟩) (Nat.le_of_ble_eq_true rfl) (Nat.le_of_ble_eq_true rfl) dX9_fault_7
set_option maxHeartbeats 4000000 in
set_option maxRecDepth 100000 in
theorem c_X9_refused {l : Launch} {D : va_G} {kA : Nat → ClassId} {M : mM} {T : mT} {sz : Nat} {ro im rd rc cu : Nat} {w cs bs tp : Nat} (hc_ro : M ro = some (.inr (7, [.ref w, .ref im, .ref rd, .ref rc, .ref cu]))) (hc_w : M w = some (.inr (6, [.int 0, .int 2, .int 0, .int 0, .int 0, .int 0, .int 0, .int (-1), .ref cs, .ref bs, .ref tp]))) : mCi l yX9_refused cX9_refused 1 (some .int) 0 0 0 D kA M T sz [.ref ro] (fun r u => (r = 0) ∧ u.2 = T ∧ u.1 = M) := by
  unfold mCi
  refine start_W (by decide) (Nat.le_of_ble_eq_true rfl) ?_
  intro p e s m below meth c ls hC hr hlk hnm hK hH hsz hl
  have hx := hC.1
  have hb := hC.2.1
  have hl : lv_has ls 1 [(0, .ref ro)] := hl
  have n_ro_w : ro ≠ w := neM hc_ro hc_w (by simp)
  have n_w_ro : w ≠ ro := neM hc_w hc_ro (by simp)
  refine lv_aload_n hx hb dX9_refused_0 rfl (lv_at hl 0 rfl) ?_
  refine xg hC hK hH flX9_12 hc_ro rfl dX9_refused_1 ?_
  refine xg hC hK hH flX9_80 hc_w rfl dX9_refused_4 ?_
  exact ret_i hC hr hlk hK hH (⟨rfl, rfl, rfl⟩) (Nat.le_of_ble_eq_true rfl) (Nat.le_of_ble_eq_true rfl) dX9_refused_7
set_option maxHeartbeats 4000000 in
set_option maxRecDepth 100000 in
theorem c_X9_day {l : Launch} {D : va_G} {kA : Nat → ClassId} {M : mM} {T : mT} {sz : Nat} {ro im rd rc cu : Nat} {w cs bs tp : Nat} {n : Int32} (hc_ro : M ro = some (.inr (7, [.ref w, .ref im, .ref rd, .ref rc, .ref cu]))) (hc_w : M w = some (.inr (6, [.int 0, .int 2, .int 0, .int 0, .int 0, .int 0, .int 0, .int (-1), .ref cs, .ref bs, .ref tp]))) : mCi l yX9_day cX9_day 2 (some .int) 1 0 0 D kA M T sz [.ref ro, .int n] (fun r u => (((1 ≤ n.toInt ∧ n.toInt ≤ 99) ∧ r = 0) ∨ ((¬ (1 ≤ n.toInt ∧ n.toInt ≤ 99)) ∧ r = 30)) ∧ u.2 = T ∧ (∀ q, q ≠ w → u.1 q = M q)) := by
  unfold mCi
  refine start_W (by decide) (Nat.le_of_ble_eq_true rfl) ?_
  intro p e s m below meth c ls hC hr hlk hnm hK hH hsz hl
  have hx := hC.1
  have hb := hC.2.1
  have hl : lv_has ls 2 [(0, .ref ro), (1, .int n)] := hl
  have hF : ∀ q, q ≠ w → M q = M q := fun q _ => rfl
  have n_ro_w : ro ≠ w := neM hc_ro hc_w (by simp)
  have n_w_ro : w ≠ ro := neM hc_w hc_ro (by simp)
  refine lv_aload_n hx hb dX9_day_0 rfl (lv_at hl 0 rfl) ?_
  refine xg hC hK hH flX9_12 hc_ro rfl dX9_day_1 ?_
  refine lv_aload_n hx hb dX9_day_4 rfl (lv_at hl 0 rfl) ?_
  refine xg hC hK hH flX9_12 hc_ro rfl dX9_day_5 ?_
  refine lv_iload_n hx hb dX9_day_8 rfl (lv_at hl 1 rfl) ?_
  refine goI hK hH (runV (As := [.int n]) (rest := [.ref w]) hC hK hH (c_X8_goOn hc_w) mlX9_83 (rcvM hK hH hc_w rfl) ⟨⟨Nat.le_of_ble_eq_true rfl, Nat.le_of_ble_eq_true rfl⟩, Nat.le_of_ble_eq_true rfl, Nat.le_of_ble_eq_true rfl⟩ rfl hl.1 rfl (Nat.le_of_ble_eq_true rfl) dX9_day_9) (fun r3 M1 T2 H locs hP hz hH => ?_)
  try dsimp only at hP
  obtain ⟨(⟨c4, rfl, hx_w⟩ | ⟨c5, rfl, hx_w⟩), eT, hfr⟩ := hP
  · skip
    have eT := eT.symm; subst eT
    have hc_ro : M1 ro = some (.inr (7, [.ref w, .ref im, .ref rd, .ref rc, .ref cu])) := (hfr ro n_ro_w).trans hc_ro
    have hc_w : M1 w = some (.inr (6, [.int (0 + n), .int 2, .int 0, .int 0, .int 0, .int 0, .int 0, .int (-1), .ref cs, .ref bs, .ref tp])) := hx_w
    have hF : ∀ q, q ≠ w → M1 q = M q := fun q h0 => (hfr q h0).trans (hF q h0)
    have c4 : 1 ≤ n.toInt ∧ n.toInt ≤ 99 := c4
    refine goI hK hH (runV (As := [.int 0]) (rest := []) hC hK hH (c_X8_note hc_w) mlX9_76 (rcvM hK hH hc_w rfl) ⟨⟨Nat.le_of_ble_eq_true rfl, Nat.le_of_ble_eq_true rfl⟩, Nat.le_of_ble_eq_true rfl, Nat.le_of_ble_eq_true rfl⟩ rfl hl.1 rfl (Nat.le_of_ble_eq_true rfl) dX9_day_12) (fun r8 M6 T7 H locs hP hz hH => ?_)
    try dsimp only at hP
    obtain ⟨(⟨c9, rfl, hx_w⟩ | ⟨c10, rfl, hx_w⟩), eT, hfr⟩ := hP
    · skip
      have eT := eT.symm; subst eT
      have hc_ro : M6 ro = some (.inr (7, [.ref w, .ref im, .ref rd, .ref rc, .ref cu])) := (hfr ro n_ro_w).trans hc_ro
      have hc_w : M6 w = some (.inr (6, [.int (0 + n), .int 2, .int 0, .int 0, .int (0 + 1), .int 0, .int 0, .int (-1), .ref cs, .ref bs, .ref tp])) := hx_w
      have hF : ∀ q, q ≠ w → M6 q = M q := fun q h0 => (hfr q h0).trans (hF q h0)
      have c9 : (0 : Int) ≠ 0 := c9
      exact absurd c9 (by omega)
    · skip
      have eT := eT.symm; subst eT
      have hc_ro : M6 ro = some (.inr (7, [.ref w, .ref im, .ref rd, .ref rc, .ref cu])) := (hfr ro n_ro_w).trans hc_ro
      have hc_w : M6 w = some (.inr (6, [.int (0 + n), .int 2, .int 0, .int 0, .int 0, .int 0, .int 0, .int (-1), .ref cs, .ref bs, .ref tp])) := hx_w
      have hF : ∀ q, q ≠ w → M6 q = M q := fun q h0 => (hfr q h0).trans (hF q h0)
      have c10 : (0 : Int) = 0 := c10
      exact ret_i hC hr hlk hK hH (⟨Or.inl (⟨by omega, rfl⟩), rfl, hF⟩) (Nat.le_of_ble_eq_true rfl) (Nat.le_of_ble_eq_true rfl) dX9_day_15
  · skip
    have eT := eT.symm; subst eT
    have hc_ro : M1 ro = some (.inr (7, [.ref w, .ref im, .ref rd, .ref rc, .ref cu])) := (hfr ro n_ro_w).trans hc_ro
    have hc_w : M1 w = some (.inr (6, [.int 0, .int 2, .int 0, .int 0, .int 0, .int 0, .int 0, .int (-1), .ref cs, .ref bs, .ref tp])) := hx_w
    have hF : ∀ q, q ≠ w → M1 q = M q := fun q h0 => (hfr q h0).trans (hF q h0)
    have c5 : ¬ (1 ≤ n.toInt ∧ n.toInt ≤ 99) := c5
    refine goI hK hH (runV (As := [.int 30]) (rest := []) hC hK hH (c_X8_note hc_w) mlX9_76 (rcvM hK hH hc_w rfl) ⟨⟨Nat.le_of_ble_eq_true rfl, Nat.le_of_ble_eq_true rfl⟩, Nat.le_of_ble_eq_true rfl, Nat.le_of_ble_eq_true rfl⟩ rfl hl.1 rfl (Nat.le_of_ble_eq_true rfl) dX9_day_12) (fun r13 M11 T12 H locs hP hz hH => ?_)
    try dsimp only at hP
    obtain ⟨(⟨c14, rfl, hx_w⟩ | ⟨c15, rfl, hx_w⟩), eT, hfr⟩ := hP
    · skip
      have eT := eT.symm; subst eT
      have hc_ro : M11 ro = some (.inr (7, [.ref w, .ref im, .ref rd, .ref rc, .ref cu])) := (hfr ro n_ro_w).trans hc_ro
      have hc_w : M11 w = some (.inr (6, [.int 0, .int 2, .int 0, .int 0, .int (0 + 1), .int 30, .int 0, .int (-1), .ref cs, .ref bs, .ref tp])) := hx_w
      have hF : ∀ q, q ≠ w → M11 q = M q := fun q h0 => (hfr q h0).trans (hF q h0)
      have c14 : (30 : Int) ≠ 0 := c14
      exact ret_i hC hr hlk hK hH (⟨Or.inr (⟨by omega, rfl⟩), rfl, hF⟩) (Nat.le_of_ble_eq_true rfl) (Nat.le_of_ble_eq_true rfl) dX9_day_15
    · skip
      have eT := eT.symm; subst eT
      have hc_ro : M11 ro = some (.inr (7, [.ref w, .ref im, .ref rd, .ref rc, .ref cu])) := (hfr ro n_ro_w).trans hc_ro
      have hc_w : M11 w = some (.inr (6, [.int 0, .int 2, .int 0, .int 0, .int 0, .int 30, .int 0, .int (-1), .ref cs, .ref bs, .ref tp])) := hx_w
      have hF : ∀ q, q ≠ w → M11 q = M q := fun q h0 => (hfr q h0).trans (hF q h0)
      have c15 : (30 : Int) = 0 := c15
      exact absurd c15 (by omega)
set_option maxHeartbeats 4000000 in
set_option maxRecDepth 100000 in
theorem c_X9_cash {l : Launch} {D : va_G} {kA : Nat → ClassId} {M : mM} {T : mT} {sz : Nat} {ro im rd rc cu : Nat} {w cs bs tp : Nat} {ps n : Int32}{f : Nat → Int32} (hc_ro : M ro = some (.inr (7, [.ref w, .ref im, .ref rd, .ref rc, .ref cu]))) (hc_w : M w = some (.inr (6, [.int 0, .int 2, .int 0, .int 0, .int 0, .int 0, .int 0, .int (-1), .ref cs, .ref bs, .ref tp]))) (hc_cs : M cs = some (.inl (kA 0, 8, .inl (c100 f)))) : mCi l yX9_cash cX9_cash 3 (some .int) 2 0 0 D kA M T sz [.ref ro, .int ps, .int n] (fun r u => (((0 ≤ ps.toInt ∧ ps.toInt ≤ 7 ∧ 0 ≤ n.toInt ∧ n.toInt ≤ 9999) ∧ r = 0) ∨ ((¬ (0 ≤ ps.toInt ∧ ps.toInt ≤ 7 ∧ 0 ≤ n.toInt ∧ n.toInt ≤ 9999)) ∧ r = 30)) ∧ u.2 = T ∧ (∀ q, q ≠ w → q ≠ cs → u.1 q = M q)) := by
  unfold mCi
  refine start_W (by decide) (Nat.le_of_ble_eq_true rfl) ?_
  intro p e s m below meth c ls hC hr hlk hnm hK hH hsz hl
  have hx := hC.1
  have hb := hC.2.1
  have hl : lv_has ls 3 [(0, .ref ro), (1, .int ps), (2, .int n)] := hl
  have hF : ∀ q, q ≠ w → q ≠ cs → M q = M q := fun q _ _ => rfl
  have n_ro_w : ro ≠ w := neM hc_ro hc_w (by simp)
  have n_ro_cs : ro ≠ cs := neM hc_ro hc_cs (by simp)
  have n_w_ro : w ≠ ro := neM hc_w hc_ro (by simp)
  have n_w_cs : w ≠ cs := neM hc_w hc_cs (by simp)
  have n_cs_ro : cs ≠ ro := neM hc_cs hc_ro (by simp)
  have n_cs_w : cs ≠ w := neM hc_cs hc_w (by simp)
  refine lv_aload_n hx hb dX9_cash_0 rfl (lv_at hl 0 rfl) ?_
  refine xg hC hK hH flX9_12 hc_ro rfl dX9_cash_1 ?_
  refine lv_aload_n hx hb dX9_cash_4 rfl (lv_at hl 0 rfl) ?_
  refine xg hC hK hH flX9_12 hc_ro rfl dX9_cash_5 ?_
  refine lv_iload_n hx hb dX9_cash_8 rfl (lv_at hl 1 rfl) ?_
  refine lv_iload_n hx hb dX9_cash_9 rfl (lv_at hl 2 rfl) ?_
  refine goI hK hH (runV (As := [.int ps, .int n]) (rest := [.ref w]) hC hK hH (c_X8_setCash hc_w hc_cs) mlX9_86 (rcvM hK hH hc_w rfl) ⟨⟨Nat.le_of_ble_eq_true rfl, Nat.le_of_ble_eq_true rfl⟩, Nat.le_of_ble_eq_true rfl, Nat.le_of_ble_eq_true rfl⟩ rfl hl.1 rfl (Nat.le_of_ble_eq_true rfl) dX9_cash_10) (fun r3 M1 T2 H locs hP hz hH => ?_)
  try dsimp only at hP
  obtain ⟨(⟨c4, rfl, hx_cs⟩ | ⟨c5, rfl, hx_cs⟩), eT, hfr⟩ := hP
  · skip
    have eT := eT.symm; subst eT
    have hc_ro : M1 ro = some (.inr (7, [.ref w, .ref im, .ref rd, .ref rc, .ref cu])) := (hfr ro n_ro_cs).trans hc_ro
    have hc_w : M1 w = some (.inr (6, [.int 0, .int 2, .int 0, .int 0, .int 0, .int 0, .int 0, .int (-1), .ref cs, .ref bs, .ref tp])) := (hfr w n_w_cs).trans hc_w
    have hc_cs : M1 cs = some (.inl (kA 0, 8, .inl (upd (c100 f) (Int32.toNatClampNeg ps) n))) := hx_cs
    have hF : ∀ q, q ≠ w → q ≠ cs → M1 q = M q := fun q h0 h1 => (hfr q h1).trans (hF q h0 h1)
    have c4 : 0 ≤ ps.toInt ∧ ps.toInt ≤ 7 ∧ 0 ≤ n.toInt ∧ n.toInt ≤ 9999 := c4
    refine goI hK hH (runV (As := [.int 0]) (rest := []) hC hK hH (c_X8_note hc_w) mlX9_76 (rcvM hK hH hc_w rfl) ⟨⟨Nat.le_of_ble_eq_true rfl, Nat.le_of_ble_eq_true rfl⟩, Nat.le_of_ble_eq_true rfl, Nat.le_of_ble_eq_true rfl⟩ rfl hl.1 rfl (Nat.le_of_ble_eq_true rfl) dX9_cash_13) (fun r8 M6 T7 H locs hP hz hH => ?_)
    try dsimp only at hP
    obtain ⟨(⟨c9, rfl, hx_w⟩ | ⟨c10, rfl, hx_w⟩), eT, hfr⟩ := hP
    · skip
      have eT := eT.symm; subst eT
      have hc_ro : M6 ro = some (.inr (7, [.ref w, .ref im, .ref rd, .ref rc, .ref cu])) := (hfr ro n_ro_w).trans hc_ro
      have hc_w : M6 w = some (.inr (6, [.int 0, .int 2, .int 0, .int 0, .int (0 + 1), .int 0, .int 0, .int (-1), .ref cs, .ref bs, .ref tp])) := hx_w
      have hc_cs : M6 cs = some (.inl (kA 0, 8, .inl (upd (c100 f) (Int32.toNatClampNeg ps) n))) := (hfr cs n_cs_w).trans hc_cs
      have hF : ∀ q, q ≠ w → q ≠ cs → M6 q = M q := fun q h0 h1 => (hfr q h0).trans (hF q h0 h1)
      have c9 : (0 : Int) ≠ 0 := c9
      exact absurd c9 (by omega)
    · skip
      have eT := eT.symm; subst eT
      have hc_ro : M6 ro = some (.inr (7, [.ref w, .ref im, .ref rd, .ref rc, .ref cu])) := (hfr ro n_ro_w).trans hc_ro
      have hc_w : M6 w = some (.inr (6, [.int 0, .int 2, .int 0, .int 0, .int 0, .int 0, .int 0, .int (-1), .ref cs, .ref bs, .ref tp])) := hx_w
      have hc_cs : M6 cs = some (.inl (kA 0, 8, .inl (upd (c100 f) (Int32.toNatClampNeg ps) n))) := (hfr cs n_cs_w).trans hc_cs
      have hF : ∀ q, q ≠ w → q ≠ cs → M6 q = M q := fun q h0 h1 => (hfr q h0).trans (hF q h0 h1)
      have c10 : (0 : Int) = 0 := c10
      exact ret_i hC hr hlk hK hH (⟨Or.inl (⟨by omega, rfl⟩), rfl, hF⟩) (Nat.le_of_ble_eq_true rfl) (Nat.le_of_ble_eq_true rfl) dX9_cash_16
  · skip
    have eT := eT.symm; subst eT
    have hc_ro : M1 ro = some (.inr (7, [.ref w, .ref im, .ref rd, .ref rc, .ref cu])) := (hfr ro n_ro_cs).trans hc_ro
    have hc_w : M1 w = some (.inr (6, [.int 0, .int 2, .int 0, .int 0, .int 0, .int 0, .int 0, .int (-1), .ref cs, .ref bs, .ref tp])) := (hfr w n_w_cs).trans hc_w
    have hc_cs : M1 cs = some (.inl (kA 0, 8, .inl (c100 f))) := hx_cs
    have hF : ∀ q, q ≠ w → q ≠ cs → M1 q = M q := fun q h0 h1 => (hfr q h1).trans (hF q h0 h1)
    have c5 : ¬ (0 ≤ ps.toInt ∧ ps.toInt ≤ 7 ∧ 0 ≤ n.toInt ∧ n.toInt ≤ 9999) := c5
    refine goI hK hH (runV (As := [.int 30]) (rest := []) hC hK hH (c_X8_note hc_w) mlX9_76 (rcvM hK hH hc_w rfl) ⟨⟨Nat.le_of_ble_eq_true rfl, Nat.le_of_ble_eq_true rfl⟩, Nat.le_of_ble_eq_true rfl, Nat.le_of_ble_eq_true rfl⟩ rfl hl.1 rfl (Nat.le_of_ble_eq_true rfl) dX9_cash_13) (fun r13 M11 T12 H locs hP hz hH => ?_)
    try dsimp only at hP
    obtain ⟨(⟨c14, rfl, hx_w⟩ | ⟨c15, rfl, hx_w⟩), eT, hfr⟩ := hP
    · skip
      have eT := eT.symm; subst eT
      have hc_ro : M11 ro = some (.inr (7, [.ref w, .ref im, .ref rd, .ref rc, .ref cu])) := (hfr ro n_ro_w).trans hc_ro
      have hc_w : M11 w = some (.inr (6, [.int 0, .int 2, .int 0, .int 0, .int (0 + 1), .int 30, .int 0, .int (-1), .ref cs, .ref bs, .ref tp])) := hx_w
      have hc_cs : M11 cs = some (.inl (kA 0, 8, .inl (c100 f))) := (hfr cs n_cs_w).trans hc_cs
      have hF : ∀ q, q ≠ w → q ≠ cs → M11 q = M q := fun q h0 h1 => (hfr q h0).trans (hF q h0 h1)
      have c14 : (30 : Int) ≠ 0 := c14
      exact ret_i hC hr hlk hK hH (⟨Or.inr (⟨by omega, rfl⟩), rfl, hF⟩) (Nat.le_of_ble_eq_true rfl) (Nat.le_of_ble_eq_true rfl) dX9_cash_16
    · skip
      have eT := eT.symm; subst eT
      have hc_ro : M11 ro = some (.inr (7, [.ref w, .ref im, .ref rd, .ref rc, .ref cu])) := (hfr ro n_ro_w).trans hc_ro
      have hc_w : M11 w = some (.inr (6, [.int 0, .int 2, .int 0, .int 0, .int 0, .int 30, .int 0, .int (-1), .ref cs, .ref bs, .ref tp])) := hx_w
      have hc_cs : M11 cs = some (.inl (kA 0, 8, .inl (c100 f))) := (hfr cs n_cs_w).trans hc_cs
      have hF : ∀ q, q ≠ w → q ≠ cs → M11 q = M q := fun q h0 h1 => (hfr q h0).trans (hF q h0 h1)
      have c15 : (30 : Int) = 0 := c15
      exact absurd c15 (by omega)
set_option maxHeartbeats 4000000 in
set_option maxRecDepth 100000 in
theorem c_X9_grace {l : Launch} {D : va_G} {kA : Nat → ClassId} {M : mM} {T : mT} {sz : Nat} {ro im rd rc cu : Nat} {w cs bs tp : Nat} {n : Int32} (hc_ro : M ro = some (.inr (7, [.ref w, .ref im, .ref rd, .ref rc, .ref cu]))) (hc_w : M w = some (.inr (6, [.int 0, .int 2, .int 0, .int 0, .int 0, .int 0, .int 0, .int (-1), .ref cs, .ref bs, .ref tp]))) : mCi l yX9_grace cX9_grace 2 (some .int) 1 0 0 D kA M T sz [.ref ro, .int n] (fun r u => (((1 ≤ n.toInt ∧ n.toInt ≤ 9) ∧ r = 0) ∨ ((¬ (1 ≤ n.toInt ∧ n.toInt ≤ 9)) ∧ r = 30)) ∧ u.2 = T ∧ (∀ q, q ≠ w → u.1 q = M q)) := by
  unfold mCi
  refine start_W (by decide) (Nat.le_of_ble_eq_true rfl) ?_
  intro p e s m below meth c ls hC hr hlk hnm hK hH hsz hl
  have hx := hC.1
  have hb := hC.2.1
  have hl : lv_has ls 2 [(0, .ref ro), (1, .int n)] := hl
  have hF : ∀ q, q ≠ w → M q = M q := fun q _ => rfl
  have n_ro_w : ro ≠ w := neM hc_ro hc_w (by simp)
  have n_w_ro : w ≠ ro := neM hc_w hc_ro (by simp)
  refine lv_aload_n hx hb dX9_grace_0 rfl (lv_at hl 0 rfl) ?_
  refine xg hC hK hH flX9_12 hc_ro rfl dX9_grace_1 ?_
  refine lv_aload_n hx hb dX9_grace_4 rfl (lv_at hl 0 rfl) ?_
  refine xg hC hK hH flX9_12 hc_ro rfl dX9_grace_5 ?_
  refine lv_iload_n hx hb dX9_grace_8 rfl (lv_at hl 1 rfl) ?_
  refine goI hK hH (runV (As := [.int n]) (rest := [.ref w]) hC hK hH (c_X8_setGrace hc_w) mlX9_90 (rcvM hK hH hc_w rfl) ⟨⟨Nat.le_of_ble_eq_true rfl, Nat.le_of_ble_eq_true rfl⟩, Nat.le_of_ble_eq_true rfl, Nat.le_of_ble_eq_true rfl⟩ rfl hl.1 rfl (Nat.le_of_ble_eq_true rfl) dX9_grace_9) (fun r3 M1 T2 H locs hP hz hH => ?_)
  try dsimp only at hP
  obtain ⟨(⟨c4, rfl, hx_w⟩ | ⟨c5, rfl, hx_w⟩), eT, hfr⟩ := hP
  · skip
    have eT := eT.symm; subst eT
    have hc_ro : M1 ro = some (.inr (7, [.ref w, .ref im, .ref rd, .ref rc, .ref cu])) := (hfr ro n_ro_w).trans hc_ro
    have hc_w : M1 w = some (.inr (6, [.int 0, .int n, .int 0, .int 0, .int 0, .int 0, .int 0, .int (-1), .ref cs, .ref bs, .ref tp])) := hx_w
    have hF : ∀ q, q ≠ w → M1 q = M q := fun q h0 => (hfr q h0).trans (hF q h0)
    have c4 : 1 ≤ n.toInt ∧ n.toInt ≤ 9 := c4
    refine goI hK hH (runV (As := [.int 0]) (rest := []) hC hK hH (c_X8_note hc_w) mlX9_76 (rcvM hK hH hc_w rfl) ⟨⟨Nat.le_of_ble_eq_true rfl, Nat.le_of_ble_eq_true rfl⟩, Nat.le_of_ble_eq_true rfl, Nat.le_of_ble_eq_true rfl⟩ rfl hl.1 rfl (Nat.le_of_ble_eq_true rfl) dX9_grace_12) (fun r8 M6 T7 H locs hP hz hH => ?_)
    try dsimp only at hP
    obtain ⟨(⟨c9, rfl, hx_w⟩ | ⟨c10, rfl, hx_w⟩), eT, hfr⟩ := hP
    · skip
      have eT := eT.symm; subst eT
      have hc_ro : M6 ro = some (.inr (7, [.ref w, .ref im, .ref rd, .ref rc, .ref cu])) := (hfr ro n_ro_w).trans hc_ro
      have hc_w : M6 w = some (.inr (6, [.int 0, .int n, .int 0, .int 0, .int (0 + 1), .int 0, .int 0, .int (-1), .ref cs, .ref bs, .ref tp])) := hx_w
      have hF : ∀ q, q ≠ w → M6 q = M q := fun q h0 => (hfr q h0).trans (hF q h0)
      have c9 : (0 : Int) ≠ 0 := c9
      exact absurd c9 (by omega)
    · skip
      have eT := eT.symm; subst eT
      have hc_ro : M6 ro = some (.inr (7, [.ref w, .ref im, .ref rd, .ref rc, .ref cu])) := (hfr ro n_ro_w).trans hc_ro
      have hc_w : M6 w = some (.inr (6, [.int 0, .int n, .int 0, .int 0, .int 0, .int 0, .int 0, .int (-1), .ref cs, .ref bs, .ref tp])) := hx_w
      have hF : ∀ q, q ≠ w → M6 q = M q := fun q h0 => (hfr q h0).trans (hF q h0)
      have c10 : (0 : Int) = 0 := c10
      exact ret_i hC hr hlk hK hH (⟨Or.inl (⟨by omega, rfl⟩), rfl, hF⟩) (Nat.le_of_ble_eq_true rfl) (Nat.le_of_ble_eq_true rfl) dX9_grace_15
  · skip
    have eT := eT.symm; subst eT
    have hc_ro : M1 ro = some (.inr (7, [.ref w, .ref im, .ref rd, .ref rc, .ref cu])) := (hfr ro n_ro_w).trans hc_ro
    have hc_w : M1 w = some (.inr (6, [.int 0, .int 2, .int 0, .int 0, .int 0, .int 0, .int 0, .int (-1), .ref cs, .ref bs, .ref tp])) := hx_w
    have hF : ∀ q, q ≠ w → M1 q = M q := fun q h0 => (hfr q h0).trans (hF q h0)
    have c5 : ¬ (1 ≤ n.toInt ∧ n.toInt ≤ 9) := c5
    refine goI hK hH (runV (As := [.int 30]) (rest := []) hC hK hH (c_X8_note hc_w) mlX9_76 (rcvM hK hH hc_w rfl) ⟨⟨Nat.le_of_ble_eq_true rfl, Nat.le_of_ble_eq_true rfl⟩, Nat.le_of_ble_eq_true rfl, Nat.le_of_ble_eq_true rfl⟩ rfl hl.1 rfl (Nat.le_of_ble_eq_true rfl) dX9_grace_12) (fun r13 M11 T12 H locs hP hz hH => ?_)
    try dsimp only at hP
    obtain ⟨(⟨c14, rfl, hx_w⟩ | ⟨c15, rfl, hx_w⟩), eT, hfr⟩ := hP
    · skip
      have eT := eT.symm; subst eT
      have hc_ro : M11 ro = some (.inr (7, [.ref w, .ref im, .ref rd, .ref rc, .ref cu])) := (hfr ro n_ro_w).trans hc_ro
      have hc_w : M11 w = some (.inr (6, [.int 0, .int 2, .int 0, .int 0, .int (0 + 1), .int 30, .int 0, .int (-1), .ref cs, .ref bs, .ref tp])) := hx_w
      have hF : ∀ q, q ≠ w → M11 q = M q := fun q h0 => (hfr q h0).trans (hF q h0)
      have c14 : (30 : Int) ≠ 0 := c14
      exact ret_i hC hr hlk hK hH (⟨Or.inr (⟨by omega, rfl⟩), rfl, hF⟩) (Nat.le_of_ble_eq_true rfl) (Nat.le_of_ble_eq_true rfl) dX9_grace_15
    · skip
      have eT := eT.symm; subst eT
      have hc_ro : M11 ro = some (.inr (7, [.ref w, .ref im, .ref rd, .ref rc, .ref cu])) := (hfr ro n_ro_w).trans hc_ro
      have hc_w : M11 w = some (.inr (6, [.int 0, .int 2, .int 0, .int 0, .int 0, .int 30, .int 0, .int (-1), .ref cs, .ref bs, .ref tp])) := hx_w
      have hF : ∀ q, q ≠ w → M11 q = M q := fun q h0 => (hfr q h0).trans (hF q h0)
      have c15 : (30 : Int) = 0 := c15
      exact absurd c15 (by omega)
set_option maxHeartbeats 4000000 in
set_option maxRecDepth 100000 in
theorem c_X9_accept {l : Launch} {D : va_G} {kA : Nat → ClassId} {M : mM} {T : mT} {sz : Nat} {ro im rd rc cu : Nat} {w cs bs tp : Nat} {b : Int32} (hc_ro : M ro = some (.inr (7, [.ref w, .ref im, .ref rd, .ref rc, .ref cu]))) (hc_w : M w = some (.inr (6, [.int 0, .int 2, .int 0, .int 0, .int 0, .int 0, .int 0, .int (-1), .ref cs, .ref bs, .ref tp]))) : mCi l yX9_accept cX9_accept 2 (some .int) 2 0 0 D kA M T sz [.ref ro, .int b] (fun r u => (r = 30) ∧ u.2 = T ∧ (∀ q, q ≠ w → u.1 q = M q)) := by
  unfold mCi
  refine start_W (by decide) (Nat.le_of_ble_eq_true rfl) ?_
  intro p e s m below meth c ls hC hr hlk hnm hK hH hsz hl
  have hx := hC.1
  have hb := hC.2.1
  have hl : lv_has ls 2 [(0, .ref ro), (1, .int b)] := hl
  have hF : ∀ q, q ≠ w → M q = M q := fun q _ => rfl
  have n_ro_w : ro ≠ w := neM hc_ro hc_w (by simp)
  have n_w_ro : w ≠ ro := neM hc_w hc_ro (by simp)
  refine lv_aload_n hx hb dX9_accept_0 rfl (lv_at hl 0 rfl) ?_
  refine xg hC hK hH flX9_12 hc_ro rfl dX9_accept_1 ?_
  refine lv_aload_n hx hb dX9_accept_4 rfl (lv_at hl 0 rfl) ?_
  refine xg hC hK hH flX9_12 hc_ro rfl dX9_accept_5 ?_
  refine lv_iload_n hx hb dX9_accept_8 rfl (lv_at hl 1 rfl) ?_
  refine goI hK hH (runV (As := [.int b]) (rest := [.ref w]) hC hK hH (c_X8_acceptOne hc_w) mlX9_100 (rcvM hK hH hc_w rfl) ⟨⟨Nat.le_of_ble_eq_true rfl, Nat.le_of_ble_eq_true rfl⟩, Nat.le_of_ble_eq_true rfl, Nat.le_of_ble_eq_true rfl⟩ rfl hl.1 rfl (Nat.le_of_ble_eq_true rfl) dX9_accept_9) (fun r3 M1 T2 H locs hP hz hH => ?_)
  try dsimp only at hP
  obtain ⟨(rfl), eT, eM⟩ := hP
  have eT := eT.symm; subst eT
  have eM := eM.symm; subst eM
  refine goI hK hH (runV (As := [.int 30]) (rest := []) hC hK hH (c_X8_note hc_w) mlX9_76 (rcvM hK hH hc_w rfl) ⟨⟨Nat.le_of_ble_eq_true rfl, Nat.le_of_ble_eq_true rfl⟩, Nat.le_of_ble_eq_true rfl, Nat.le_of_ble_eq_true rfl⟩ rfl hl.1 rfl (Nat.le_of_ble_eq_true rfl) dX9_accept_12) (fun r6 M4 T5 H locs hP hz hH => ?_)
  try dsimp only at hP
  obtain ⟨(⟨c7, rfl, hx_w⟩ | ⟨c8, rfl, hx_w⟩), eT, hfr⟩ := hP
  · skip
    have eT := eT.symm; subst eT
    have hc_ro : M4 ro = some (.inr (7, [.ref w, .ref im, .ref rd, .ref rc, .ref cu])) := (hfr ro n_ro_w).trans hc_ro
    have hc_w : M4 w = some (.inr (6, [.int 0, .int 2, .int 0, .int 0, .int (0 + 1), .int 30, .int 0, .int (-1), .ref cs, .ref bs, .ref tp])) := hx_w
    have hF : ∀ q, q ≠ w → M4 q = M q := fun q h0 => (hfr q h0).trans (hF q h0)
    have c7 : (30 : Int) ≠ 0 := c7
    exact ret_i hC hr hlk hK hH (⟨rfl, rfl, hF⟩) (Nat.le_of_ble_eq_true rfl) (Nat.le_of_ble_eq_true rfl) dX9_accept_15
  · skip
    have eT := eT.symm; subst eT
    have hc_ro : M4 ro = some (.inr (7, [.ref w, .ref im, .ref rd, .ref rc, .ref cu])) := (hfr ro n_ro_w).trans hc_ro
    have hc_w : M4 w = some (.inr (6, [.int 0, .int 2, .int 0, .int 0, .int 0, .int 30, .int 0, .int (-1), .ref cs, .ref bs, .ref tp])) := hx_w
    have hF : ∀ q, q ≠ w → M4 q = M q := fun q h0 => (hfr q h0).trans (hF q h0)
    have c8 : (30 : Int) = 0 := c8
    exact absurd c8 (by omega)
set_option maxHeartbeats 4000000 in
set_option maxRecDepth 100000 in
theorem c_X9_pass {l : Launch} {D : va_G} {kA : Nat → ClassId} {M : mM} {T : mT} {sz : Nat} {ro im rd rc cu : Nat} {w cs bs tp : Nat} {b so to va no : Int32} (hc_ro : M ro = some (.inr (7, [.ref w, .ref im, .ref rd, .ref rc, .ref cu]))) (hc_w : M w = some (.inr (6, [.int 0, .int 2, .int 0, .int 0, .int 0, .int 0, .int 0, .int (-1), .ref cs, .ref bs, .ref tp]))) : mCi l yX9_pass cX9_pass 7 (some .int) 3 0 0 D kA M T sz [.ref ro, .int b, .int so, .int to, .int va, .int no] (fun r u => (r = 30) ∧ u.2 = T ∧ (∀ q, q ≠ w → u.1 q = M q)) := by
  unfold mCi
  refine start_W (by decide) (Nat.le_of_ble_eq_true rfl) ?_
  intro p e s m below meth c ls hC hr hlk hnm hK hH hsz hl
  have hx := hC.1
  have hb := hC.2.1
  have hl : lv_has ls 7 [(0, .ref ro), (1, .int b), (2, .int so), (3, .int to), (4, .int va), (5, .int no)] := hl
  have hF : ∀ q, q ≠ w → M q = M q := fun q _ => rfl
  have n_ro_w : ro ≠ w := neM hc_ro hc_w (by simp)
  have n_w_ro : w ≠ ro := neM hc_w hc_ro (by simp)
  refine lv_iload_n hx hb dX9_pass_0 rfl (lv_at hl 2 rfl) ?_
  refine lv_bipush (v := 10) hx hb dX9_pass_1 (by decide) ?_
  refine jic_lt (tgt := 10) hx hb dX9_pass_3 (by decide) (fun c1 => ?_) (fun c1 => ?_)
  · skip
    have c1 : so.toInt < 10 := c1
    refine lv_iconst (v := 0) hx hb dX9_pass_10 (by decide) ?_
    refine lv_istore (lv' := [(6, .int 0), (0, .ref ro), (1, .int b), (2, .int so), (3, .int to), (4, .int va), (5, .int no)]) hx hb dX9_pass_11 hl (by decide) rfl (fun ls hl => ?_)
    refine lv_aload_n hx hb dX9_pass_13 rfl (lv_at hl 1 rfl) ?_
    refine xg hC hK hH flX9_12 hc_ro rfl dX9_pass_14 ?_
    refine lv_aload_n hx hb dX9_pass_17 rfl (lv_at hl 1 rfl) ?_
    refine xg hC hK hH flX9_12 hc_ro rfl dX9_pass_18 ?_
    refine lv_iload_n hx hb dX9_pass_21 rfl (lv_at hl 2 rfl) ?_
    refine lv_iload hx hb dX9_pass_22 (lv_at hl 0 rfl) ?_
    refine jif_eq (tgt := 34) hx hb dX9_pass_24 (by decide) (fun c2 => ?_) (fun c2 => absurd c2 (by decide))
    refine lv_iload_n hx hb dX9_pass_34 rfl (lv_at hl 3 rfl) ?_
    refine lv_iload_n hx hb dX9_pass_35 rfl (lv_at hl 4 rfl) ?_
    refine lv_iload hx hb dX9_pass_36 (lv_at hl 5 rfl) ?_
    refine lv_iload hx hb dX9_pass_38 (lv_at hl 6 rfl) ?_
    refine lv_iload hx hb dX9_pass_40 (lv_at hl 0 rfl) ?_
    refine goI hK hH (runV (As := [.int b, .int so, .int to, .int va, .int no, .int 0]) (rest := [.ref w]) hC hK hH (c_X8_passOn hc_w) mlX9_103 (rcvM hK hH hc_w rfl) ⟨⟨Nat.le_of_ble_eq_true rfl, Nat.le_of_ble_eq_true rfl⟩, Nat.le_of_ble_eq_true rfl, Nat.le_of_ble_eq_true rfl⟩ rfl hl.1 rfl (Nat.le_of_ble_eq_true rfl) dX9_pass_42) (fun r5 M3 T4 H locs hP hz hH => ?_)
    try dsimp only at hP
    obtain ⟨(rfl), eT, eM⟩ := hP
    have eT := eT.symm; subst eT
    have eM := eM.symm; subst eM
    refine goI hK hH (runV (As := [.int 30]) (rest := []) hC hK hH (c_X8_note hc_w) mlX9_76 (rcvM hK hH hc_w rfl) ⟨⟨Nat.le_of_ble_eq_true rfl, Nat.le_of_ble_eq_true rfl⟩, Nat.le_of_ble_eq_true rfl, Nat.le_of_ble_eq_true rfl⟩ rfl hl.1 rfl (Nat.le_of_ble_eq_true rfl) dX9_pass_45) (fun r8 M6 T7 H locs hP hz hH => ?_)
    try dsimp only at hP
    obtain ⟨(⟨c9, rfl, hx_w⟩ | ⟨c10, rfl, hx_w⟩), eT, hfr⟩ := hP
    · skip
      have eT := eT.symm; subst eT
      have hc_ro : M6 ro = some (.inr (7, [.ref w, .ref im, .ref rd, .ref rc, .ref cu])) := (hfr ro n_ro_w).trans hc_ro
      have hc_w : M6 w = some (.inr (6, [.int 0, .int 2, .int 0, .int 0, .int (0 + 1), .int 30, .int 0, .int (-1), .ref cs, .ref bs, .ref tp])) := hx_w
      have hF : ∀ q, q ≠ w → M6 q = M q := fun q h0 => (hfr q h0).trans (hF q h0)
      have c9 : (30 : Int) ≠ 0 := c9
      exact ret_i hC hr hlk hK hH (⟨rfl, rfl, hF⟩) (Nat.le_of_ble_eq_true rfl) (Nat.le_of_ble_eq_true rfl) dX9_pass_48
    · skip
      have eT := eT.symm; subst eT
      have hc_ro : M6 ro = some (.inr (7, [.ref w, .ref im, .ref rd, .ref rc, .ref cu])) := (hfr ro n_ro_w).trans hc_ro
      have hc_w : M6 w = some (.inr (6, [.int 0, .int 2, .int 0, .int 0, .int 0, .int 30, .int 0, .int (-1), .ref cs, .ref bs, .ref tp])) := hx_w
      have hF : ∀ q, q ≠ w → M6 q = M q := fun q h0 => (hfr q h0).trans (hF q h0)
      have c10 : (30 : Int) = 0 := c10
      exact absurd c10 (by omega)
  · skip
    have c1 : 10 ≤ so.toInt := c1
    refine lv_iconst (v := 1) hx hb dX9_pass_6 (by decide) ?_
    refine lv_goto (tgt := 11) hx hb dX9_pass_7 (by decide) ?_
    refine lv_istore (lv' := [(6, .int 1), (0, .ref ro), (1, .int b), (2, .int so), (3, .int to), (4, .int va), (5, .int no)]) hx hb dX9_pass_11 hl (by decide) rfl (fun ls hl => ?_)
    refine lv_aload_n hx hb dX9_pass_13 rfl (lv_at hl 1 rfl) ?_
    refine xg hC hK hH flX9_12 hc_ro rfl dX9_pass_14 ?_
    refine lv_aload_n hx hb dX9_pass_17 rfl (lv_at hl 1 rfl) ?_
    refine xg hC hK hH flX9_12 hc_ro rfl dX9_pass_18 ?_
    refine lv_iload_n hx hb dX9_pass_21 rfl (lv_at hl 2 rfl) ?_
    refine lv_iload hx hb dX9_pass_22 (lv_at hl 0 rfl) ?_
    refine jif_eq (tgt := 34) hx hb dX9_pass_24 (by decide) (fun c11 => absurd c11 (by decide)) (fun c11 => ?_)
    refine lv_iload_n hx hb dX9_pass_27 rfl (lv_at hl 3 rfl) ?_
    refine lv_bipush (v := 10) hx hb dX9_pass_28 (by decide) ?_
    refine lv_isub hx hb dX9_pass_30 ?_
    refine lv_topi (fun z12 e_z12 => ?_)
    have h_z12 : z12.toInt = so.toInt - 10 := by rw [e_z12, iSub (by have := iRg so; have : (10 : Int32).toInt = 10 := rfl; omega) (by have := iRg so; have : (10 : Int32).toInt = 10 := rfl; omega)]; rfl
    refine lv_goto (tgt := 35) hx hb dX9_pass_31 (by decide) ?_
    refine lv_iload_n hx hb dX9_pass_35 rfl (lv_at hl 4 rfl) ?_
    refine lv_iload hx hb dX9_pass_36 (lv_at hl 5 rfl) ?_
    refine lv_iload hx hb dX9_pass_38 (lv_at hl 6 rfl) ?_
    refine lv_iload hx hb dX9_pass_40 (lv_at hl 0 rfl) ?_
    refine goI hK hH (runV (As := [.int b, .int z12, .int to, .int va, .int no, .int 1]) (rest := [.ref w]) hC hK hH (c_X8_passOn hc_w) mlX9_103 (rcvM hK hH hc_w rfl) ⟨⟨Nat.le_of_ble_eq_true rfl, Nat.le_of_ble_eq_true rfl⟩, Nat.le_of_ble_eq_true rfl, Nat.le_of_ble_eq_true rfl⟩ rfl hl.1 rfl (Nat.le_of_ble_eq_true rfl) dX9_pass_42) (fun r15 M13 T14 H locs hP hz hH => ?_)
    try dsimp only at hP
    obtain ⟨(rfl), eT, eM⟩ := hP
    have eT := eT.symm; subst eT
    have eM := eM.symm; subst eM
    refine goI hK hH (runV (As := [.int 30]) (rest := []) hC hK hH (c_X8_note hc_w) mlX9_76 (rcvM hK hH hc_w rfl) ⟨⟨Nat.le_of_ble_eq_true rfl, Nat.le_of_ble_eq_true rfl⟩, Nat.le_of_ble_eq_true rfl, Nat.le_of_ble_eq_true rfl⟩ rfl hl.1 rfl (Nat.le_of_ble_eq_true rfl) dX9_pass_45) (fun r18 M16 T17 H locs hP hz hH => ?_)
    try dsimp only at hP
    obtain ⟨(⟨c19, rfl, hx_w⟩ | ⟨c20, rfl, hx_w⟩), eT, hfr⟩ := hP
    · skip
      have eT := eT.symm; subst eT
      have hc_ro : M16 ro = some (.inr (7, [.ref w, .ref im, .ref rd, .ref rc, .ref cu])) := (hfr ro n_ro_w).trans hc_ro
      have hc_w : M16 w = some (.inr (6, [.int 0, .int 2, .int 0, .int 0, .int (0 + 1), .int 30, .int 0, .int (-1), .ref cs, .ref bs, .ref tp])) := hx_w
      have hF : ∀ q, q ≠ w → M16 q = M q := fun q h0 => (hfr q h0).trans (hF q h0)
      have c19 : (30 : Int) ≠ 0 := c19
      subst e_z12
      exact ret_i hC hr hlk hK hH (⟨rfl, rfl, hF⟩) (Nat.le_of_ble_eq_true rfl) (Nat.le_of_ble_eq_true rfl) dX9_pass_48
    · skip
      have eT := eT.symm; subst eT
      have hc_ro : M16 ro = some (.inr (7, [.ref w, .ref im, .ref rd, .ref rc, .ref cu])) := (hfr ro n_ro_w).trans hc_ro
      have hc_w : M16 w = some (.inr (6, [.int 0, .int 2, .int 0, .int 0, .int 0, .int 30, .int 0, .int (-1), .ref cs, .ref bs, .ref tp])) := hx_w
      have hF : ∀ q, q ≠ w → M16 q = M q := fun q h0 => (hfr q h0).trans (hF q h0)
      have c20 : (30 : Int) = 0 := c20
      exact absurd c20 (by omega)
set_option maxHeartbeats 4000000 in
set_option maxRecDepth 100000 in
theorem c_X9_forge {l : Launch} {D : va_G} {kA : Nat → ClassId} {M : mM} {T : mT} {sz : Nat} {ro im rd rc cu : Nat} {w cs bs tp : Nat} {b nm to va no : Int32} (hc_ro : M ro = some (.inr (7, [.ref w, .ref im, .ref rd, .ref rc, .ref cu]))) (hc_w : M w = some (.inr (6, [.int 0, .int 2, .int 0, .int 0, .int 0, .int 0, .int 0, .int (-1), .ref cs, .ref bs, .ref tp]))) : mCi l yX9_forge cX9_forge 6 (some .int) 3 0 0 D kA M T sz [.ref ro, .int b, .int nm, .int to, .int va, .int no] (fun r u => (r = 30) ∧ u.2 = T ∧ (∀ q, q ≠ w → u.1 q = M q)) := by
  unfold mCi
  refine start_W (by decide) (Nat.le_of_ble_eq_true rfl) ?_
  intro p e s m below meth c ls hC hr hlk hnm hK hH hsz hl
  have hx := hC.1
  have hb := hC.2.1
  have hl : lv_has ls 6 [(0, .ref ro), (1, .int b), (2, .int nm), (3, .int to), (4, .int va), (5, .int no)] := hl
  have hF : ∀ q, q ≠ w → M q = M q := fun q _ => rfl
  have n_ro_w : ro ≠ w := neM hc_ro hc_w (by simp)
  have n_w_ro : w ≠ ro := neM hc_w hc_ro (by simp)
  refine lv_aload_n hx hb dX9_forge_0 rfl (lv_at hl 0 rfl) ?_
  refine xg hC hK hH flX9_12 hc_ro rfl dX9_forge_1 ?_
  refine lv_aload_n hx hb dX9_forge_4 rfl (lv_at hl 0 rfl) ?_
  refine xg hC hK hH flX9_12 hc_ro rfl dX9_forge_5 ?_
  refine lv_iload_n hx hb dX9_forge_8 rfl (lv_at hl 1 rfl) ?_
  refine lv_iload_n hx hb dX9_forge_9 rfl (lv_at hl 2 rfl) ?_
  refine lv_iload_n hx hb dX9_forge_10 rfl (lv_at hl 3 rfl) ?_
  refine lv_iload hx hb dX9_forge_11 (lv_at hl 4 rfl) ?_
  refine lv_iload hx hb dX9_forge_13 (lv_at hl 5 rfl) ?_
  refine goI hK hH (runV (As := [.int b, .int nm, .int to, .int va, .int no]) (rest := [.ref w]) hC hK hH (c_X8_passForged hc_w) mlX9_107 (rcvM hK hH hc_w rfl) ⟨⟨Nat.le_of_ble_eq_true rfl, Nat.le_of_ble_eq_true rfl⟩, Nat.le_of_ble_eq_true rfl, Nat.le_of_ble_eq_true rfl⟩ rfl hl.1 rfl (Nat.le_of_ble_eq_true rfl) dX9_forge_15) (fun r3 M1 T2 H locs hP hz hH => ?_)
  try dsimp only at hP
  obtain ⟨(rfl), eT, eM⟩ := hP
  have eT := eT.symm; subst eT
  have eM := eM.symm; subst eM
  refine goI hK hH (runV (As := [.int 30]) (rest := []) hC hK hH (c_X8_note hc_w) mlX9_76 (rcvM hK hH hc_w rfl) ⟨⟨Nat.le_of_ble_eq_true rfl, Nat.le_of_ble_eq_true rfl⟩, Nat.le_of_ble_eq_true rfl, Nat.le_of_ble_eq_true rfl⟩ rfl hl.1 rfl (Nat.le_of_ble_eq_true rfl) dX9_forge_18) (fun r6 M4 T5 H locs hP hz hH => ?_)
  try dsimp only at hP
  obtain ⟨(⟨c7, rfl, hx_w⟩ | ⟨c8, rfl, hx_w⟩), eT, hfr⟩ := hP
  · skip
    have eT := eT.symm; subst eT
    have hc_ro : M4 ro = some (.inr (7, [.ref w, .ref im, .ref rd, .ref rc, .ref cu])) := (hfr ro n_ro_w).trans hc_ro
    have hc_w : M4 w = some (.inr (6, [.int 0, .int 2, .int 0, .int 0, .int (0 + 1), .int 30, .int 0, .int (-1), .ref cs, .ref bs, .ref tp])) := hx_w
    have hF : ∀ q, q ≠ w → M4 q = M q := fun q h0 => (hfr q h0).trans (hF q h0)
    have c7 : (30 : Int) ≠ 0 := c7
    exact ret_i hC hr hlk hK hH (⟨rfl, rfl, hF⟩) (Nat.le_of_ble_eq_true rfl) (Nat.le_of_ble_eq_true rfl) dX9_forge_21
  · skip
    have eT := eT.symm; subst eT
    have hc_ro : M4 ro = some (.inr (7, [.ref w, .ref im, .ref rd, .ref rc, .ref cu])) := (hfr ro n_ro_w).trans hc_ro
    have hc_w : M4 w = some (.inr (6, [.int 0, .int 2, .int 0, .int 0, .int 0, .int 30, .int 0, .int (-1), .ref cs, .ref bs, .ref tp])) := hx_w
    have hF : ∀ q, q ≠ w → M4 q = M q := fun q h0 => (hfr q h0).trans (hF q h0)
    have c8 : (30 : Int) = 0 := c8
    exact absurd c8 (by omega)
set_option maxHeartbeats 4000000 in
set_option maxRecDepth 100000 in
theorem c_X9_find {l : Launch} {D : va_G} {kA : Nat → ClassId} {M : mM} {T : mT} {sz : Nat} {ro im rd rc cu : Nat} {w cs bs tp : Nat} {b by_ : Int32} (hc_ro : M ro = some (.inr (7, [.ref w, .ref im, .ref rd, .ref rc, .ref cu]))) (hc_w : M w = some (.inr (6, [.int 0, .int 2, .int 0, .int 0, .int 0, .int 0, .int 0, .int (-1), .ref cs, .ref bs, .ref tp]))) : mCi l yX9_find cX9_find 3 (some .int) 3 0 0 D kA M T sz [.ref ro, .int b, .int by_] (fun r u => (r = 30) ∧ u.2 = T ∧ (∀ q, q ≠ w → u.1 q = M q)) := by
  unfold mCi
  refine start_W (by decide) (Nat.le_of_ble_eq_true rfl) ?_
  intro p e s m below meth c ls hC hr hlk hnm hK hH hsz hl
  have hx := hC.1
  have hb := hC.2.1
  have hl : lv_has ls 3 [(0, .ref ro), (1, .int b), (2, .int by_)] := hl
  have hF : ∀ q, q ≠ w → M q = M q := fun q _ => rfl
  have n_ro_w : ro ≠ w := neM hc_ro hc_w (by simp)
  have n_w_ro : w ≠ ro := neM hc_w hc_ro (by simp)
  refine lv_aload_n hx hb dX9_find_0 rfl (lv_at hl 0 rfl) ?_
  refine xg hC hK hH flX9_12 hc_ro rfl dX9_find_1 ?_
  refine lv_aload_n hx hb dX9_find_4 rfl (lv_at hl 0 rfl) ?_
  refine xg hC hK hH flX9_12 hc_ro rfl dX9_find_5 ?_
  refine lv_iload_n hx hb dX9_find_8 rfl (lv_at hl 1 rfl) ?_
  refine lv_iload_n hx hb dX9_find_9 rfl (lv_at hl 2 rfl) ?_
  refine goI hK hH (runV (As := [.int b, .int by_]) (rest := [.ref w]) hC hK hH (c_X8_findOne hc_w) mlX9_111 (rcvM hK hH hc_w rfl) ⟨⟨Nat.le_of_ble_eq_true rfl, Nat.le_of_ble_eq_true rfl⟩, Nat.le_of_ble_eq_true rfl, Nat.le_of_ble_eq_true rfl⟩ rfl hl.1 rfl (Nat.le_of_ble_eq_true rfl) dX9_find_10) (fun r3 M1 T2 H locs hP hz hH => ?_)
  try dsimp only at hP
  obtain ⟨(rfl), eT, eM⟩ := hP
  have eT := eT.symm; subst eT
  have eM := eM.symm; subst eM
  refine goI hK hH (runV (As := [.int 30]) (rest := []) hC hK hH (c_X8_note hc_w) mlX9_76 (rcvM hK hH hc_w rfl) ⟨⟨Nat.le_of_ble_eq_true rfl, Nat.le_of_ble_eq_true rfl⟩, Nat.le_of_ble_eq_true rfl, Nat.le_of_ble_eq_true rfl⟩ rfl hl.1 rfl (Nat.le_of_ble_eq_true rfl) dX9_find_13) (fun r6 M4 T5 H locs hP hz hH => ?_)
  try dsimp only at hP
  obtain ⟨(⟨c7, rfl, hx_w⟩ | ⟨c8, rfl, hx_w⟩), eT, hfr⟩ := hP
  · skip
    have eT := eT.symm; subst eT
    have hc_ro : M4 ro = some (.inr (7, [.ref w, .ref im, .ref rd, .ref rc, .ref cu])) := (hfr ro n_ro_w).trans hc_ro
    have hc_w : M4 w = some (.inr (6, [.int 0, .int 2, .int 0, .int 0, .int (0 + 1), .int 30, .int 0, .int (-1), .ref cs, .ref bs, .ref tp])) := hx_w
    have hF : ∀ q, q ≠ w → M4 q = M q := fun q h0 => (hfr q h0).trans (hF q h0)
    have c7 : (30 : Int) ≠ 0 := c7
    exact ret_i hC hr hlk hK hH (⟨rfl, rfl, hF⟩) (Nat.le_of_ble_eq_true rfl) (Nat.le_of_ble_eq_true rfl) dX9_find_16
  · skip
    have eT := eT.symm; subst eT
    have hc_ro : M4 ro = some (.inr (7, [.ref w, .ref im, .ref rd, .ref rc, .ref cu])) := (hfr ro n_ro_w).trans hc_ro
    have hc_w : M4 w = some (.inr (6, [.int 0, .int 2, .int 0, .int 0, .int 0, .int 30, .int 0, .int (-1), .ref cs, .ref bs, .ref tp])) := hx_w
    have hF : ∀ q, q ≠ w → M4 q = M q := fun q h0 => (hfr q h0).trans (hF q h0)
    have c8 : (30 : Int) = 0 := c8
    exact absurd c8 (by omega)
set_option maxHeartbeats 4000000 in
set_option maxRecDepth 100000 in
theorem c_X9_defend {l : Launch} {D : va_G} {kA : Nat → ClassId} {M : mM} {T : mT} {sz : Nat} {ro im rd rc cu : Nat} {w cs bs tp : Nat} {b pt re : Int32} (hc_ro : M ro = some (.inr (7, [.ref w, .ref im, .ref rd, .ref rc, .ref cu]))) (hc_w : M w = some (.inr (6, [.int 0, .int 2, .int 0, .int 0, .int 0, .int 0, .int 0, .int (-1), .ref cs, .ref bs, .ref tp]))) : mCi l yX9_defend cX9_defend 4 (some .int) 4 0 0 D kA M T sz [.ref ro, .int b, .int pt, .int re] (fun r u => (r = 30) ∧ u.2 = T ∧ (∀ q, q ≠ w → u.1 q = M q)) := by
  unfold mCi
  refine start_W (by decide) (Nat.le_of_ble_eq_true rfl) ?_
  intro p e s m below meth c ls hC hr hlk hnm hK hH hsz hl
  have hx := hC.1
  have hb := hC.2.1
  have hl : lv_has ls 4 [(0, .ref ro), (1, .int b), (2, .int pt), (3, .int re)] := hl
  have hF : ∀ q, q ≠ w → M q = M q := fun q _ => rfl
  have n_ro_w : ro ≠ w := neM hc_ro hc_w (by simp)
  have n_w_ro : w ≠ ro := neM hc_w hc_ro (by simp)
  refine lv_aload_n hx hb dX9_defend_0 rfl (lv_at hl 0 rfl) ?_
  refine xg hC hK hH flX9_12 hc_ro rfl dX9_defend_1 ?_
  refine lv_aload_n hx hb dX9_defend_4 rfl (lv_at hl 0 rfl) ?_
  refine xg hC hK hH flX9_12 hc_ro rfl dX9_defend_5 ?_
  refine lv_iload_n hx hb dX9_defend_8 rfl (lv_at hl 1 rfl) ?_
  refine lv_iload_n hx hb dX9_defend_9 rfl (lv_at hl 2 rfl) ?_
  refine lv_iload_n hx hb dX9_defend_10 rfl (lv_at hl 3 rfl) ?_
  refine goI hK hH (runV (As := [.int b, .int pt, .int re]) (rest := [.ref w]) hC hK hH (c_X8_giveDefence hc_w) mlX9_114 (rcvM hK hH hc_w rfl) ⟨⟨Nat.le_of_ble_eq_true rfl, Nat.le_of_ble_eq_true rfl⟩, Nat.le_of_ble_eq_true rfl, Nat.le_of_ble_eq_true rfl⟩ rfl hl.1 rfl (Nat.le_of_ble_eq_true rfl) dX9_defend_11) (fun r3 M1 T2 H locs hP hz hH => ?_)
  try dsimp only at hP
  obtain ⟨(rfl), eT, eM⟩ := hP
  have eT := eT.symm; subst eT
  have eM := eM.symm; subst eM
  refine goI hK hH (runV (As := [.int 30]) (rest := []) hC hK hH (c_X8_note hc_w) mlX9_76 (rcvM hK hH hc_w rfl) ⟨⟨Nat.le_of_ble_eq_true rfl, Nat.le_of_ble_eq_true rfl⟩, Nat.le_of_ble_eq_true rfl, Nat.le_of_ble_eq_true rfl⟩ rfl hl.1 rfl (Nat.le_of_ble_eq_true rfl) dX9_defend_14) (fun r6 M4 T5 H locs hP hz hH => ?_)
  try dsimp only at hP
  obtain ⟨(⟨c7, rfl, hx_w⟩ | ⟨c8, rfl, hx_w⟩), eT, hfr⟩ := hP
  · skip
    have eT := eT.symm; subst eT
    have hc_ro : M4 ro = some (.inr (7, [.ref w, .ref im, .ref rd, .ref rc, .ref cu])) := (hfr ro n_ro_w).trans hc_ro
    have hc_w : M4 w = some (.inr (6, [.int 0, .int 2, .int 0, .int 0, .int (0 + 1), .int 30, .int 0, .int (-1), .ref cs, .ref bs, .ref tp])) := hx_w
    have hF : ∀ q, q ≠ w → M4 q = M q := fun q h0 => (hfr q h0).trans (hF q h0)
    have c7 : (30 : Int) ≠ 0 := c7
    exact ret_i hC hr hlk hK hH (⟨rfl, rfl, hF⟩) (Nat.le_of_ble_eq_true rfl) (Nat.le_of_ble_eq_true rfl) dX9_defend_17
  · skip
    have eT := eT.symm; subst eT
    have hc_ro : M4 ro = some (.inr (7, [.ref w, .ref im, .ref rd, .ref rc, .ref cu])) := (hfr ro n_ro_w).trans hc_ro
    have hc_w : M4 w = some (.inr (6, [.int 0, .int 2, .int 0, .int 0, .int 0, .int 30, .int 0, .int (-1), .ref cs, .ref bs, .ref tp])) := hx_w
    have hF : ∀ q, q ≠ w → M4 q = M q := fun q h0 => (hfr q h0).trans (hF q h0)
    have c8 : (30 : Int) = 0 := c8
    exact absurd c8 (by omega)
set_option maxHeartbeats 4000000 in
set_option maxRecDepth 100000 in
theorem c_X9_present {l : Launch} {D : va_G} {kA : Nat → ClassId} {M : mM} {T : mT} {sz : Nat} {ro im rd rc cu : Nat} {w cs bs tp : Nat} {b : Int32} (hc_ro : M ro = some (.inr (7, [.ref w, .ref im, .ref rd, .ref rc, .ref cu]))) (hc_w : M w = some (.inr (6, [.int 0, .int 2, .int 0, .int 0, .int 0, .int 0, .int 0, .int (-1), .ref cs, .ref bs, .ref tp]))) : mCi l yX9_present cX9_present 3 (some .int) 2 0 0 D kA M T sz [.ref ro, .int b] (fun r u => (r = 30) ∧ u.2 = T ∧ (∀ q, q ≠ w → u.1 q = M q)) := by
  unfold mCi
  refine start_W (by decide) (Nat.le_of_ble_eq_true rfl) ?_
  intro p e s m below meth c ls hC hr hlk hnm hK hH hsz hl
  have hx := hC.1
  have hb := hC.2.1
  have hl : lv_has ls 3 [(0, .ref ro), (1, .int b)] := hl
  have hF : ∀ q, q ≠ w → M q = M q := fun q _ => rfl
  have n_ro_w : ro ≠ w := neM hc_ro hc_w (by simp)
  have n_w_ro : w ≠ ro := neM hc_w hc_ro (by simp)
  refine lv_aload_n hx hb dX9_present_0 rfl (lv_at hl 0 rfl) ?_
  refine xg hC hK hH flX9_12 hc_ro rfl dX9_present_1 ?_
  refine lv_iload_n hx hb dX9_present_4 rfl (lv_at hl 1 rfl) ?_
  refine goI hK hH (runV (As := [.int b]) (rest := []) hC hK hH (c_X8_presentOne hc_w) mlX9_118 (rcvM hK hH hc_w rfl) ⟨⟨Nat.le_of_ble_eq_true rfl, Nat.le_of_ble_eq_true rfl⟩, Nat.le_of_ble_eq_true rfl, Nat.le_of_ble_eq_true rfl⟩ rfl hl.1 rfl (Nat.le_of_ble_eq_true rfl) dX9_present_5) (fun r3 M1 T2 H locs hP hz hH => ?_)
  try dsimp only at hP
  obtain ⟨(rfl), eT, eM⟩ := hP
  have eT := eT.symm; subst eT
  have eM := eM.symm; subst eM
  refine lv_istore_n (lv' := [(2, .int 30), (0, .ref ro), (1, .int b)]) hx hb dX9_present_8 rfl hl (by decide) rfl (fun ls hl => ?_)
  refine lv_aload_n hx hb dX9_present_9 rfl (lv_at hl 1 rfl) ?_
  refine xg hC hK hH flX9_12 hc_ro rfl dX9_present_10 ?_
  refine lv_iload_n hx hb dX9_present_13 rfl (lv_at hl 0 rfl) ?_
  refine goI hK hH (runS (As := [.int 30]) (rest := [.ref w]) hC hK hH (c_X9_refusalOf) mlX9_121 ⟨⟨Nat.le_of_ble_eq_true rfl, Nat.le_of_ble_eq_true rfl⟩, Nat.le_of_ble_eq_true rfl, Nat.le_of_ble_eq_true rfl⟩ rfl hl.1 rfl (Nat.le_of_ble_eq_true rfl) dX9_present_14) (fun r6 M4 T5 H locs hP hz hH => ?_)
  try dsimp only at hP
  obtain ⟨(⟨c7, rfl⟩ | ⟨c8, rfl⟩), eT, eM⟩ := hP
  · skip
    have eT := eT.symm; subst eT
    have eM := eM.symm; subst eM
    have c7 : (30 : Int) = 1 := c7
    exact absurd c7 (by omega)
  · skip
    have eT := eT.symm; subst eT
    have eM := eM.symm; subst eM
    have c8 : (30 : Int) ≠ 1 := c8
    refine goI hK hH (runV (As := [.int 30]) (rest := []) hC hK hH (c_X8_note hc_w) mlX9_76 (rcvM hK hH hc_w rfl) ⟨⟨Nat.le_of_ble_eq_true rfl, Nat.le_of_ble_eq_true rfl⟩, Nat.le_of_ble_eq_true rfl, Nat.le_of_ble_eq_true rfl⟩ rfl hl.1 rfl (Nat.le_of_ble_eq_true rfl) dX9_present_17) (fun r11 M9 T10 H locs hP hz hH => ?_)
    try dsimp only at hP
    obtain ⟨(⟨c12, rfl, hx_w⟩ | ⟨c13, rfl, hx_w⟩), eT, hfr⟩ := hP
    · skip
      have eT := eT.symm; subst eT
      have hc_ro : M9 ro = some (.inr (7, [.ref w, .ref im, .ref rd, .ref rc, .ref cu])) := (hfr ro n_ro_w).trans hc_ro
      have hc_w : M9 w = some (.inr (6, [.int 0, .int 2, .int 0, .int 0, .int (0 + 1), .int 30, .int 0, .int (-1), .ref cs, .ref bs, .ref tp])) := hx_w
      have hF : ∀ q, q ≠ w → M9 q = M q := fun q h0 => (hfr q h0).trans (hF q h0)
      have c12 : (30 : Int) ≠ 0 := c12
      refine lv_pop hx hb dX9_present_20 rfl ?_
      refine lv_iload_n hx hb dX9_present_21 rfl (lv_at hl 0 rfl) ?_
      exact ret_i hC hr hlk hK hH (⟨rfl, rfl, hF⟩) (Nat.le_of_ble_eq_true rfl) (Nat.le_of_ble_eq_true rfl) dX9_present_22
    · skip
      have eT := eT.symm; subst eT
      have hc_ro : M9 ro = some (.inr (7, [.ref w, .ref im, .ref rd, .ref rc, .ref cu])) := (hfr ro n_ro_w).trans hc_ro
      have hc_w : M9 w = some (.inr (6, [.int 0, .int 2, .int 0, .int 0, .int 0, .int 30, .int 0, .int (-1), .ref cs, .ref bs, .ref tp])) := hx_w
      have hF : ∀ q, q ≠ w → M9 q = M q := fun q h0 => (hfr q h0).trans (hF q h0)
      have c13 : (30 : Int) = 0 := c13
      exact absurd c13 (by omega)
set_option maxHeartbeats 4000000 in
set_option maxRecDepth 100000 in
theorem c_X9_tell {l : Launch} {D : va_G} {kA : Nat → ClassId} {M : mM} {T : mT} {sz : Nat} {ro im rd rc cu : Nat} {w cs bs tp : Nat} {b fr to : Int32} (hc_ro : M ro = some (.inr (7, [.ref w, .ref im, .ref rd, .ref rc, .ref cu]))) (hc_w : M w = some (.inr (6, [.int 0, .int 2, .int 0, .int 0, .int 0, .int 0, .int 0, .int (-1), .ref cs, .ref bs, .ref tp]))) : mCi l yX9_tell cX9_tell 4 (some .int) 4 0 0 D kA M T sz [.ref ro, .int b, .int fr, .int to] (fun r u => (r = 30) ∧ u.2 = T ∧ (∀ q, q ≠ w → u.1 q = M q)) := by
  unfold mCi
  refine start_W (by decide) (Nat.le_of_ble_eq_true rfl) ?_
  intro p e s m below meth c ls hC hr hlk hnm hK hH hsz hl
  have hx := hC.1
  have hb := hC.2.1
  have hl : lv_has ls 4 [(0, .ref ro), (1, .int b), (2, .int fr), (3, .int to)] := hl
  have hF : ∀ q, q ≠ w → M q = M q := fun q _ => rfl
  have n_ro_w : ro ≠ w := neM hc_ro hc_w (by simp)
  have n_w_ro : w ≠ ro := neM hc_w hc_ro (by simp)
  refine lv_aload_n hx hb dX9_tell_0 rfl (lv_at hl 0 rfl) ?_
  refine xg hC hK hH flX9_12 hc_ro rfl dX9_tell_1 ?_
  refine lv_aload_n hx hb dX9_tell_4 rfl (lv_at hl 0 rfl) ?_
  refine xg hC hK hH flX9_12 hc_ro rfl dX9_tell_5 ?_
  refine lv_iload_n hx hb dX9_tell_8 rfl (lv_at hl 1 rfl) ?_
  refine lv_iload_n hx hb dX9_tell_9 rfl (lv_at hl 2 rfl) ?_
  refine lv_iload_n hx hb dX9_tell_10 rfl (lv_at hl 3 rfl) ?_
  refine goI hK hH (runV (As := [.int b, .int fr, .int to]) (rest := [.ref w]) hC hK hH (c_X8_giveNotice hc_w) mlX9_124 (rcvM hK hH hc_w rfl) ⟨⟨Nat.le_of_ble_eq_true rfl, Nat.le_of_ble_eq_true rfl⟩, Nat.le_of_ble_eq_true rfl, Nat.le_of_ble_eq_true rfl⟩ rfl hl.1 rfl (Nat.le_of_ble_eq_true rfl) dX9_tell_11) (fun r3 M1 T2 H locs hP hz hH => ?_)
  try dsimp only at hP
  obtain ⟨(rfl), eT, eM⟩ := hP
  have eT := eT.symm; subst eT
  have eM := eM.symm; subst eM
  refine goI hK hH (runV (As := [.int 30]) (rest := []) hC hK hH (c_X8_note hc_w) mlX9_76 (rcvM hK hH hc_w rfl) ⟨⟨Nat.le_of_ble_eq_true rfl, Nat.le_of_ble_eq_true rfl⟩, Nat.le_of_ble_eq_true rfl, Nat.le_of_ble_eq_true rfl⟩ rfl hl.1 rfl (Nat.le_of_ble_eq_true rfl) dX9_tell_14) (fun r6 M4 T5 H locs hP hz hH => ?_)
  try dsimp only at hP
  obtain ⟨(⟨c7, rfl, hx_w⟩ | ⟨c8, rfl, hx_w⟩), eT, hfr⟩ := hP
  · skip
    have eT := eT.symm; subst eT
    have hc_ro : M4 ro = some (.inr (7, [.ref w, .ref im, .ref rd, .ref rc, .ref cu])) := (hfr ro n_ro_w).trans hc_ro
    have hc_w : M4 w = some (.inr (6, [.int 0, .int 2, .int 0, .int 0, .int (0 + 1), .int 30, .int 0, .int (-1), .ref cs, .ref bs, .ref tp])) := hx_w
    have hF : ∀ q, q ≠ w → M4 q = M q := fun q h0 => (hfr q h0).trans (hF q h0)
    have c7 : (30 : Int) ≠ 0 := c7
    exact ret_i hC hr hlk hK hH (⟨rfl, rfl, hF⟩) (Nat.le_of_ble_eq_true rfl) (Nat.le_of_ble_eq_true rfl) dX9_tell_17
  · skip
    have eT := eT.symm; subst eT
    have hc_ro : M4 ro = some (.inr (7, [.ref w, .ref im, .ref rd, .ref rc, .ref cu])) := (hfr ro n_ro_w).trans hc_ro
    have hc_w : M4 w = some (.inr (6, [.int 0, .int 2, .int 0, .int 0, .int 0, .int 30, .int 0, .int (-1), .ref cs, .ref bs, .ref tp])) := hx_w
    have hF : ∀ q, q ≠ w → M4 q = M q := fun q h0 => (hfr q h0).trans (hF q h0)
    have c8 : (30 : Int) = 0 := c8
    exact absurd c8 (by omega)
set_option maxHeartbeats 4000000 in
set_option maxRecDepth 100000 in
theorem c_X9_release {l : Launch} {D : va_G} {kA : Nat → ClassId} {M : mM} {T : mT} {sz : Nat} {ro im rd rc cu : Nat} {w cs bs tp : Nat} {b pt : Int32} (hc_ro : M ro = some (.inr (7, [.ref w, .ref im, .ref rd, .ref rc, .ref cu]))) (hc_w : M w = some (.inr (6, [.int 0, .int 2, .int 0, .int 0, .int 0, .int 0, .int 0, .int (-1), .ref cs, .ref bs, .ref tp]))) : mCi l yX9_release cX9_release 3 (some .int) 4 0 0 D kA M T sz [.ref ro, .int b, .int pt] (fun r u => (r = 30) ∧ u.2 = T ∧ (∀ q, q ≠ w → u.1 q = M q)) := by
  unfold mCi
  refine start_W (by decide) (Nat.le_of_ble_eq_true rfl) ?_
  intro p e s m below meth c ls hC hr hlk hnm hK hH hsz hl
  have hx := hC.1
  have hb := hC.2.1
  have hl : lv_has ls 3 [(0, .ref ro), (1, .int b), (2, .int pt)] := hl
  have hF : ∀ q, q ≠ w → M q = M q := fun q _ => rfl
  have n_ro_w : ro ≠ w := neM hc_ro hc_w (by simp)
  have n_w_ro : w ≠ ro := neM hc_w hc_ro (by simp)
  refine lv_aload_n hx hb dX9_release_0 rfl (lv_at hl 0 rfl) ?_
  refine xg hC hK hH flX9_12 hc_ro rfl dX9_release_1 ?_
  refine lv_aload_n hx hb dX9_release_4 rfl (lv_at hl 0 rfl) ?_
  refine xg hC hK hH flX9_12 hc_ro rfl dX9_release_5 ?_
  refine lv_iload_n hx hb dX9_release_8 rfl (lv_at hl 1 rfl) ?_
  refine lv_iload_n hx hb dX9_release_9 rfl (lv_at hl 2 rfl) ?_
  refine goI hK hH (runV (As := [.int b, .int pt]) (rest := [.ref w]) hC hK hH (c_X8_releaseOne hc_w) mlX9_128 (rcvM hK hH hc_w rfl) ⟨⟨Nat.le_of_ble_eq_true rfl, Nat.le_of_ble_eq_true rfl⟩, Nat.le_of_ble_eq_true rfl, Nat.le_of_ble_eq_true rfl⟩ rfl hl.1 rfl (Nat.le_of_ble_eq_true rfl) dX9_release_10) (fun r3 M1 T2 H locs hP hz hH => ?_)
  try dsimp only at hP
  obtain ⟨(rfl), eT, eM⟩ := hP
  have eT := eT.symm; subst eT
  have eM := eM.symm; subst eM
  refine goI hK hH (runV (As := [.int 30]) (rest := []) hC hK hH (c_X8_note hc_w) mlX9_76 (rcvM hK hH hc_w rfl) ⟨⟨Nat.le_of_ble_eq_true rfl, Nat.le_of_ble_eq_true rfl⟩, Nat.le_of_ble_eq_true rfl, Nat.le_of_ble_eq_true rfl⟩ rfl hl.1 rfl (Nat.le_of_ble_eq_true rfl) dX9_release_13) (fun r6 M4 T5 H locs hP hz hH => ?_)
  try dsimp only at hP
  obtain ⟨(⟨c7, rfl, hx_w⟩ | ⟨c8, rfl, hx_w⟩), eT, hfr⟩ := hP
  · skip
    have eT := eT.symm; subst eT
    have hc_ro : M4 ro = some (.inr (7, [.ref w, .ref im, .ref rd, .ref rc, .ref cu])) := (hfr ro n_ro_w).trans hc_ro
    have hc_w : M4 w = some (.inr (6, [.int 0, .int 2, .int 0, .int 0, .int (0 + 1), .int 30, .int 0, .int (-1), .ref cs, .ref bs, .ref tp])) := hx_w
    have hF : ∀ q, q ≠ w → M4 q = M q := fun q h0 => (hfr q h0).trans (hF q h0)
    have c7 : (30 : Int) ≠ 0 := c7
    exact ret_i hC hr hlk hK hH (⟨rfl, rfl, hF⟩) (Nat.le_of_ble_eq_true rfl) (Nat.le_of_ble_eq_true rfl) dX9_release_16
  · skip
    have eT := eT.symm; subst eT
    have hc_ro : M4 ro = some (.inr (7, [.ref w, .ref im, .ref rd, .ref rc, .ref cu])) := (hfr ro n_ro_w).trans hc_ro
    have hc_w : M4 w = some (.inr (6, [.int 0, .int 2, .int 0, .int 0, .int 0, .int 30, .int 0, .int (-1), .ref cs, .ref bs, .ref tp])) := hx_w
    have hF : ∀ q, q ≠ w → M4 q = M q := fun q h0 => (hfr q h0).trans (hF q h0)
    have c8 : (30 : Int) = 0 := c8
    exact absurd c8 (by omega)
set_option maxHeartbeats 4000000 in
set_option maxRecDepth 100000 in
theorem c_X9_pay {l : Launch} {D : va_G} {kA : Nat → ClassId} {M : mM} {T : mT} {sz : Nat} {ro im rd rc cu : Nat} {w cs bs tp : Nat} {b pt : Int32} (hc_ro : M ro = some (.inr (7, [.ref w, .ref im, .ref rd, .ref rc, .ref cu]))) (hc_w : M w = some (.inr (6, [.int 0, .int 2, .int 0, .int 0, .int 0, .int 0, .int 0, .int (-1), .ref cs, .ref bs, .ref tp]))) : mCi l yX9_pay cX9_pay 3 (some .int) 3 0 0 D kA M T sz [.ref ro, .int b, .int pt] (fun r u => (r = 30) ∧ u.2 = T ∧ (∀ q, q ≠ w → u.1 q = M q)) := by
  unfold mCi
  refine start_W (by decide) (Nat.le_of_ble_eq_true rfl) ?_
  intro p e s m below meth c ls hC hr hlk hnm hK hH hsz hl
  have hx := hC.1
  have hb := hC.2.1
  have hl : lv_has ls 3 [(0, .ref ro), (1, .int b), (2, .int pt)] := hl
  have hF : ∀ q, q ≠ w → M q = M q := fun q _ => rfl
  have n_ro_w : ro ≠ w := neM hc_ro hc_w (by simp)
  have n_w_ro : w ≠ ro := neM hc_w hc_ro (by simp)
  refine lv_aload_n hx hb dX9_pay_0 rfl (lv_at hl 0 rfl) ?_
  refine xg hC hK hH flX9_12 hc_ro rfl dX9_pay_1 ?_
  refine lv_aload_n hx hb dX9_pay_4 rfl (lv_at hl 0 rfl) ?_
  refine xg hC hK hH flX9_12 hc_ro rfl dX9_pay_5 ?_
  refine lv_iload_n hx hb dX9_pay_8 rfl (lv_at hl 1 rfl) ?_
  refine lv_iload_n hx hb dX9_pay_9 rfl (lv_at hl 2 rfl) ?_
  refine goI hK hH (runV (As := [.int b, .int pt]) (rest := [.ref w]) hC hK hH (c_X8_payOne hc_w) mlX9_131 (rcvM hK hH hc_w rfl) ⟨⟨Nat.le_of_ble_eq_true rfl, Nat.le_of_ble_eq_true rfl⟩, Nat.le_of_ble_eq_true rfl, Nat.le_of_ble_eq_true rfl⟩ rfl hl.1 rfl (Nat.le_of_ble_eq_true rfl) dX9_pay_10) (fun r3 M1 T2 H locs hP hz hH => ?_)
  try dsimp only at hP
  obtain ⟨(rfl), eT, eM⟩ := hP
  have eT := eT.symm; subst eT
  have eM := eM.symm; subst eM
  refine goI hK hH (runV (As := [.int 30]) (rest := []) hC hK hH (c_X8_note hc_w) mlX9_76 (rcvM hK hH hc_w rfl) ⟨⟨Nat.le_of_ble_eq_true rfl, Nat.le_of_ble_eq_true rfl⟩, Nat.le_of_ble_eq_true rfl, Nat.le_of_ble_eq_true rfl⟩ rfl hl.1 rfl (Nat.le_of_ble_eq_true rfl) dX9_pay_13) (fun r6 M4 T5 H locs hP hz hH => ?_)
  try dsimp only at hP
  obtain ⟨(⟨c7, rfl, hx_w⟩ | ⟨c8, rfl, hx_w⟩), eT, hfr⟩ := hP
  · skip
    have eT := eT.symm; subst eT
    have hc_ro : M4 ro = some (.inr (7, [.ref w, .ref im, .ref rd, .ref rc, .ref cu])) := (hfr ro n_ro_w).trans hc_ro
    have hc_w : M4 w = some (.inr (6, [.int 0, .int 2, .int 0, .int 0, .int (0 + 1), .int 30, .int 0, .int (-1), .ref cs, .ref bs, .ref tp])) := hx_w
    have hF : ∀ q, q ≠ w → M4 q = M q := fun q h0 => (hfr q h0).trans (hF q h0)
    have c7 : (30 : Int) ≠ 0 := c7
    exact ret_i hC hr hlk hK hH (⟨rfl, rfl, hF⟩) (Nat.le_of_ble_eq_true rfl) (Nat.le_of_ble_eq_true rfl) dX9_pay_16
  · skip
    have eT := eT.symm; subst eT
    have hc_ro : M4 ro = some (.inr (7, [.ref w, .ref im, .ref rd, .ref rc, .ref cu])) := (hfr ro n_ro_w).trans hc_ro
    have hc_w : M4 w = some (.inr (6, [.int 0, .int 2, .int 0, .int 0, .int 0, .int 30, .int 0, .int (-1), .ref cs, .ref bs, .ref tp])) := hx_w
    have hF : ∀ q, q ≠ w → M4 q = M q := fun q h0 => (hfr q h0).trans (hF q h0)
    have c8 : (30 : Int) = 0 := c8
    exact absurd c8 (by omega)
set_option maxHeartbeats 4000000 in
set_option maxRecDepth 100000 in
theorem c_X9_count {l : Launch} {D : va_G} {kA : Nat → ClassId} {M : mM} {T : mT} {sz : Nat} {ro im rd rc cu : Nat} {w cs bs tp : Nat} {wh : Int32}{f : Nat → Int32} (hc_ro : M ro = some (.inr (7, [.ref w, .ref im, .ref rd, .ref rc, .ref cu]))) (hc_w : M w = some (.inr (6, [.int 0, .int 2, .int 0, .int 0, .int 0, .int 0, .int 0, .int (-1), .ref cs, .ref bs, .ref tp]))) (hc_cs : M cs = some (.inl (kA 0, 8, .inl (c100 f)))) : mCi l yX9_count cX9_count 2 (some .int) 1 0 0 D kA M T sz [.ref ro, .int wh] (fun r u => ((wh.toInt = 2 ∧ r = 2) ∨ (wh.toInt = 3 ∧ r = 800) ∨ ((10 ≤ wh.toInt ∧ wh.toInt ≤ 17) ∧ r = 100) ∨ ((0 ≤ wh.toInt ∧ wh.toInt ≤ 8 ∧ wh.toInt ≠ 2 ∧ wh.toInt ≠ 3) ∧ r = 0) ∨ ((¬ (0 ≤ wh.toInt ∧ wh.toInt ≤ 8) ∧ ¬ (10 ≤ wh.toInt ∧ wh.toInt ≤ 17)) ∧ r = -1)) ∧ u.2 = T ∧ u.1 = M) := by
  unfold mCi
  refine start_W (by decide) (Nat.le_of_ble_eq_true rfl) ?_
  intro p e s m below meth c ls hC hr hlk hnm hK hH hsz hl
  have hx := hC.1
  have hb := hC.2.1
  have hl : lv_has ls 2 [(0, .ref ro), (1, .int wh)] := hl
  have n_ro_w : ro ≠ w := neM hc_ro hc_w (by simp)
  have n_ro_cs : ro ≠ cs := neM hc_ro hc_cs (by simp)
  have n_w_ro : w ≠ ro := neM hc_w hc_ro (by simp)
  have n_w_cs : w ≠ cs := neM hc_w hc_cs (by simp)
  have n_cs_ro : cs ≠ ro := neM hc_cs hc_ro (by simp)
  have n_cs_w : cs ≠ w := neM hc_cs hc_w (by simp)
  refine lv_iload_n hx hb dX9_count_0 rfl (lv_at hl 1 rfl) ?_
  rcases (show wh.toInt < 0 ∨ 8 < wh.toInt ∨ wh.toInt = 0 ∨ wh.toInt = 1 ∨ wh.toInt = 2 ∨ wh.toInt = 3 ∨ wh.toInt = 4 ∨ wh.toInt = 5 ∨ wh.toInt = 6 ∨ wh.toInt = 7 ∨ wh.toInt = 8 by omega) with c1 | c1 | c1 | c1 | c1 | c1 | c1 | c1 | c1 | c1 | c1
  · skip
    refine lv_tableOut (tgt := 124) hx hb dX9_count_1 (Or.inl c1) (by decide) ?_
    refine lv_iload_n hx hb dX9_count_124 rfl (lv_at hl 1 rfl) ?_
    refine lv_bipush (v := 10) hx hb dX9_count_125 (by decide) ?_
    refine lv_isub hx hb dX9_count_127 ?_
    refine lv_topi (fun z2 e_z2 => ?_)
    have rg_wh := iRg wh
    rcases (show -2147483638 ≤ wh.toInt ∨ wh.toInt < -2147483638 by omega) with c3 | c3
    · skip
      have h_z2 : z2.toInt = wh.toInt - 10 := by rw [e_z2, iSub (by have := iRg wh; have : (10 : Int32).toInt = 10 := rfl; omega) (by have := iRg wh; have : (10 : Int32).toInt = 10 := rfl; omega)]; rfl
      refine goI hK hH (runS (As := [.int z2]) (rest := []) hC hK hH (c_X9_isPerson) mlX9_155 ⟨⟨Nat.le_of_ble_eq_true rfl, Nat.le_of_ble_eq_true rfl⟩, Nat.le_of_ble_eq_true rfl, Nat.le_of_ble_eq_true rfl⟩ rfl hl.1 rfl (Nat.le_of_ble_eq_true rfl) dX9_count_128) (fun r6 M4 T5 H locs hP hz hH => ?_)
      try dsimp only at hP
      obtain ⟨(⟨c7, rfl⟩ | ⟨c8, rfl⟩), eT, eM⟩ := hP
      · skip
        have eT := eT.symm; subst eT
        have eM := eM.symm; subst eM
        have c7 : 0 ≤ z2.toInt ∧ z2.toInt ≤ 7 := c7
        exact absurd c7 (by omega)
      · skip
        have eT := eT.symm; subst eT
        have eM := eM.symm; subst eM
        have c8 : ¬ (0 ≤ z2.toInt ∧ z2.toInt ≤ 7) := c8
        refine jif_eq (tgt := 149) hx hb dX9_count_131 (by decide) (fun c9 => ?_) (fun c9 => absurd c9 (by decide))
        refine lv_iconst (v := -1) hx hb dX9_count_149 (by decide) ?_
        subst e_z2
        exact ret_i hC hr hlk hK hH (⟨Or.inr (Or.inr (Or.inr (Or.inr (⟨by omega, rfl⟩)))), rfl, rfl⟩) (Nat.le_of_ble_eq_true rfl) (Nat.le_of_ble_eq_true rfl) dX9_count_150
    · skip
      have h_z2 : z2.toInt = wh.toInt - 10 + 4294967296 := by rw [e_z2, iSubW (by have := iRg wh; have : (10 : Int32).toInt = 10 := rfl; omega)]; rfl
      refine goI hK hH (runS (As := [.int z2]) (rest := []) hC hK hH (c_X9_isPerson) mlX9_155 ⟨⟨Nat.le_of_ble_eq_true rfl, Nat.le_of_ble_eq_true rfl⟩, Nat.le_of_ble_eq_true rfl, Nat.le_of_ble_eq_true rfl⟩ rfl hl.1 rfl (Nat.le_of_ble_eq_true rfl) dX9_count_128) (fun r12 M10 T11 H locs hP hz hH => ?_)
      try dsimp only at hP
      obtain ⟨(⟨c13, rfl⟩ | ⟨c14, rfl⟩), eT, eM⟩ := hP
      · skip
        have eT := eT.symm; subst eT
        have eM := eM.symm; subst eM
        have c13 : 0 ≤ z2.toInt ∧ z2.toInt ≤ 7 := c13
        exact absurd c13 (by omega)
      · skip
        have eT := eT.symm; subst eT
        have eM := eM.symm; subst eM
        have c14 : ¬ (0 ≤ z2.toInt ∧ z2.toInt ≤ 7) := c14
        refine jif_eq (tgt := 149) hx hb dX9_count_131 (by decide) (fun c15 => ?_) (fun c15 => absurd c15 (by decide))
        refine lv_iconst (v := -1) hx hb dX9_count_149 (by decide) ?_
        subst e_z2
        exact ret_i hC hr hlk hK hH (⟨Or.inr (Or.inr (Or.inr (Or.inr (⟨by omega, rfl⟩)))), rfl, rfl⟩) (Nat.le_of_ble_eq_true rfl) (Nat.le_of_ble_eq_true rfl) dX9_count_150
  · skip
    refine lv_tableOut (tgt := 124) hx hb dX9_count_1 (Or.inr c1) (by decide) ?_
    refine lv_iload_n hx hb dX9_count_124 rfl (lv_at hl 1 rfl) ?_
    refine lv_bipush (v := 10) hx hb dX9_count_125 (by decide) ?_
    refine lv_isub hx hb dX9_count_127 ?_
    refine lv_topi (fun z16 e_z16 => ?_)
    have h_z16 : z16.toInt = wh.toInt - 10 := by rw [e_z16, iSub (by have := iRg wh; have : (10 : Int32).toInt = 10 := rfl; omega) (by have := iRg wh; have : (10 : Int32).toInt = 10 := rfl; omega)]; rfl
    refine goI hK hH (runS (As := [.int z16]) (rest := []) hC hK hH (c_X9_isPerson) mlX9_155 ⟨⟨Nat.le_of_ble_eq_true rfl, Nat.le_of_ble_eq_true rfl⟩, Nat.le_of_ble_eq_true rfl, Nat.le_of_ble_eq_true rfl⟩ rfl hl.1 rfl (Nat.le_of_ble_eq_true rfl) dX9_count_128) (fun r19 M17 T18 H locs hP hz hH => ?_)
    try dsimp only at hP
    obtain ⟨(⟨c20, rfl⟩ | ⟨c21, rfl⟩), eT, eM⟩ := hP
    · skip
      have eT := eT.symm; subst eT
      have eM := eM.symm; subst eM
      have c20 : 0 ≤ z16.toInt ∧ z16.toInt ≤ 7 := c20
      refine jif_eq (tgt := 149) hx hb dX9_count_131 (by decide) (fun c22 => absurd c22 (by decide)) (fun c22 => ?_)
      refine lv_aload_n hx hb dX9_count_134 rfl (lv_at hl 0 rfl) ?_
      refine xg hC hK hH flX9_12 hc_ro rfl dX9_count_135 ?_
      refine xg hC hK hH flX9_159 hc_w rfl dX9_count_138 ?_
      refine lv_iload_n hx hb dX9_count_141 rfl (lv_at hl 1 rfl) ?_
      refine lv_bipush (v := 10) hx hb dX9_count_142 (by decide) ?_
      refine lv_isub hx hb dX9_count_144 ?_
      refine lv_topi (fun z23 e_z23 => ?_)
      have h_z23 : z23.toInt = wh.toInt - 10 := by rw [e_z23, iSub (by have := iRg wh; have : (10 : Int32).toInt = 10 := rfl; omega) (by have := iRg wh; have : (10 : Int32).toInt = 10 := rfl; omega)]; rfl
      refine xild hC hK hH hc_cs (iIn (by omega) (by omega)) dX9_count_145 ?_
      refine lv_cst (v := 100) (c100_at _ (by have := iCl (x := z23) (by omega); omega)) ?_
      refine lv_goto (tgt := 150) hx hb dX9_count_146 (by decide) ?_
      subst e_z23
      subst e_z16
      exact ret_i hC hr hlk hK hH (⟨Or.inr (Or.inr (Or.inl (⟨by omega, rfl⟩))), rfl, rfl⟩) (Nat.le_of_ble_eq_true rfl) (Nat.le_of_ble_eq_true rfl) dX9_count_150
    · skip
      have eT := eT.symm; subst eT
      have eM := eM.symm; subst eM
      have c21 : ¬ (0 ≤ z16.toInt ∧ z16.toInt ≤ 7) := c21
      refine jif_eq (tgt := 149) hx hb dX9_count_131 (by decide) (fun c24 => ?_) (fun c24 => absurd c24 (by decide))
      refine lv_iconst (v := -1) hx hb dX9_count_149 (by decide) ?_
      subst e_z16
      exact ret_i hC hr hlk hK hH (⟨Or.inr (Or.inr (Or.inr (Or.inr (⟨by omega, rfl⟩)))), rfl, rfl⟩) (Nat.le_of_ble_eq_true rfl) (Nat.le_of_ble_eq_true rfl) dX9_count_150
  · skip
    refine lv_tableIn (off := 51) (tgt := 52) hx hb dX9_count_1 (by omega) (by omega) (by rw [c1]; rfl) (by decide) ?_
    refine lv_aload_n hx hb dX9_count_52 rfl (lv_at hl 0 rfl) ?_
    refine xg hC hK hH flX9_12 hc_ro rfl dX9_count_53 ?_
    refine xg hC hK hH flX9_134 hc_w rfl dX9_count_56 ?_
    exact ret_i hC hr hlk hK hH (⟨Or.inr (Or.inr (Or.inr (Or.inl (⟨by omega, rfl⟩)))), rfl, rfl⟩) (Nat.le_of_ble_eq_true rfl) (Nat.le_of_ble_eq_true rfl) dX9_count_59
  · skip
    refine lv_tableIn (off := 59) (tgt := 60) hx hb dX9_count_1 (by omega) (by omega) (by rw [c1]; rfl) (by decide) ?_
    refine lv_aload_n hx hb dX9_count_60 rfl (lv_at hl 0 rfl) ?_
    refine xg hC hK hH flX9_12 hc_ro rfl dX9_count_61 ?_
    refine xg hC hK hH flX9_97 hc_w rfl dX9_count_64 ?_
    exact ret_i hC hr hlk hK hH (⟨Or.inr (Or.inr (Or.inr (Or.inl (⟨by omega, rfl⟩)))), rfl, rfl⟩) (Nat.le_of_ble_eq_true rfl) (Nat.le_of_ble_eq_true rfl) dX9_count_67
  · skip
    refine lv_tableIn (off := 67) (tgt := 68) hx hb dX9_count_1 (by omega) (by omega) (by rw [c1]; rfl) (by decide) ?_
    refine lv_aload_n hx hb dX9_count_68 rfl (lv_at hl 0 rfl) ?_
    refine xg hC hK hH flX9_12 hc_ro rfl dX9_count_69 ?_
    refine xg hC hK hH flX9_137 hc_w rfl dX9_count_72 ?_
    exact ret_i hC hr hlk hK hH (⟨Or.inl (⟨by omega, rfl⟩), rfl, rfl⟩) (Nat.le_of_ble_eq_true rfl) (Nat.le_of_ble_eq_true rfl) dX9_count_75
  · skip
    refine lv_tableIn (off := 75) (tgt := 76) hx hb dX9_count_1 (by omega) (by omega) (by rw [c1]; rfl) (by decide) ?_
    refine lv_aload_n hx hb dX9_count_76 rfl (lv_at hl 0 rfl) ?_
    refine xg hC hK hH flX9_12 hc_ro rfl dX9_count_77 ?_
    refine goI hK hH (runV (As := []) (rest := []) hC hK hH (c_X8_cashOfAll hc_w hc_cs) mlX9_140 (rcvM hK hH hc_w rfl) ⟨⟨Nat.le_of_ble_eq_true rfl, Nat.le_of_ble_eq_true rfl⟩, Nat.le_of_ble_eq_true rfl, Nat.le_of_ble_eq_true rfl⟩ rfl hl.1 rfl (Nat.le_of_ble_eq_true rfl) dX9_count_80) (fun r27 M25 T26 H locs hP hz hH => ?_)
    try dsimp only at hP
    obtain ⟨(rfl), eT, eM⟩ := hP
    have eT := eT.symm; subst eT
    have eM := eM.symm; subst eM
    exact ret_i hC hr hlk hK hH (⟨Or.inr (Or.inl (⟨by omega, rfl⟩)), rfl, rfl⟩) (Nat.le_of_ble_eq_true rfl) (Nat.le_of_ble_eq_true rfl) dX9_count_83
  · skip
    refine lv_tableIn (off := 83) (tgt := 84) hx hb dX9_count_1 (by omega) (by omega) (by rw [c1]; rfl) (by decide) ?_
    refine lv_aload_n hx hb dX9_count_84 rfl (lv_at hl 0 rfl) ?_
    refine xg hC hK hH flX9_12 hc_ro rfl dX9_count_85 ?_
    refine xg hC hK hH flX9_143 hc_w rfl dX9_count_88 ?_
    exact ret_i hC hr hlk hK hH (⟨Or.inr (Or.inr (Or.inr (Or.inl (⟨by omega, rfl⟩)))), rfl, rfl⟩) (Nat.le_of_ble_eq_true rfl) (Nat.le_of_ble_eq_true rfl) dX9_count_91
  · skip
    refine lv_tableIn (off := 91) (tgt := 92) hx hb dX9_count_1 (by omega) (by omega) (by rw [c1]; rfl) (by decide) ?_
    refine lv_aload_n hx hb dX9_count_92 rfl (lv_at hl 0 rfl) ?_
    refine xg hC hK hH flX9_12 hc_ro rfl dX9_count_93 ?_
    refine goI hK hH (runV (As := []) (rest := []) hC hK hH (c_X8_dishonouredBills hc_w) mlX9_146 (rcvM hK hH hc_w rfl) ⟨⟨Nat.le_of_ble_eq_true rfl, Nat.le_of_ble_eq_true rfl⟩, Nat.le_of_ble_eq_true rfl, Nat.le_of_ble_eq_true rfl⟩ rfl hl.1 rfl (Nat.le_of_ble_eq_true rfl) dX9_count_96) (fun r30 M28 T29 H locs hP hz hH => ?_)
    try dsimp only at hP
    obtain ⟨(rfl), eT, eM⟩ := hP
    have eT := eT.symm; subst eT
    have eM := eM.symm; subst eM
    exact ret_i hC hr hlk hK hH (⟨Or.inr (Or.inr (Or.inr (Or.inl (⟨by omega, rfl⟩)))), rfl, rfl⟩) (Nat.le_of_ble_eq_true rfl) (Nat.le_of_ble_eq_true rfl) dX9_count_99
  · skip
    refine lv_tableIn (off := 99) (tgt := 100) hx hb dX9_count_1 (by omega) (by omega) (by rw [c1]; rfl) (by decide) ?_
    refine lv_aload_n hx hb dX9_count_100 rfl (lv_at hl 0 rfl) ?_
    refine xg hC hK hH flX9_12 hc_ro rfl dX9_count_101 ?_
    refine goI hK hH (runV (As := []) (rest := []) hC hK hH (c_X8_doneBills hc_w) mlX9_149 (rcvM hK hH hc_w rfl) ⟨⟨Nat.le_of_ble_eq_true rfl, Nat.le_of_ble_eq_true rfl⟩, Nat.le_of_ble_eq_true rfl, Nat.le_of_ble_eq_true rfl⟩ rfl hl.1 rfl (Nat.le_of_ble_eq_true rfl) dX9_count_104) (fun r33 M31 T32 H locs hP hz hH => ?_)
    try dsimp only at hP
    obtain ⟨(rfl), eT, eM⟩ := hP
    have eT := eT.symm; subst eT
    have eM := eM.symm; subst eM
    exact ret_i hC hr hlk hK hH (⟨Or.inr (Or.inr (Or.inr (Or.inl (⟨by omega, rfl⟩)))), rfl, rfl⟩) (Nat.le_of_ble_eq_true rfl) (Nat.le_of_ble_eq_true rfl) dX9_count_107
  · skip
    refine lv_tableIn (off := 107) (tgt := 108) hx hb dX9_count_1 (by omega) (by omega) (by rw [c1]; rfl) (by decide) ?_
    refine lv_aload_n hx hb dX9_count_108 rfl (lv_at hl 0 rfl) ?_
    refine xg hC hK hH flX9_12 hc_ro rfl dX9_count_109 ?_
    refine xg hC hK hH flX9_152 hc_w rfl dX9_count_112 ?_
    exact ret_i hC hr hlk hK hH (⟨Or.inr (Or.inr (Or.inr (Or.inl (⟨by omega, rfl⟩)))), rfl, rfl⟩) (Nat.le_of_ble_eq_true rfl) (Nat.le_of_ble_eq_true rfl) dX9_count_115
  · skip
    refine lv_tableIn (off := 115) (tgt := 116) hx hb dX9_count_1 (by omega) (by omega) (by rw [c1]; rfl) (by decide) ?_
    refine lv_aload_n hx hb dX9_count_116 rfl (lv_at hl 0 rfl) ?_
    refine xg hC hK hH flX9_12 hc_ro rfl dX9_count_117 ?_
    refine xg hC hK hH flX9_45 hc_w rfl dX9_count_120 ?_
    exact ret_i hC hr hlk hK hH (⟨Or.inr (Or.inr (Or.inr (Or.inl (⟨by omega, rfl⟩)))), rfl, rfl⟩) (Nat.le_of_ble_eq_true rfl) (Nat.le_of_ble_eq_true rfl) dX9_count_123
set_option maxHeartbeats 4000000 in
set_option maxRecDepth 100000 in
theorem c_X9_bill {l : Launch} {D : va_G} {kA : Nat → ClassId} {M : mM} {T : mT} {sz : Nat} {ro im rd rc cu : Nat} {w cs bs tp : Nat} {b wh : Int32} (hc_ro : M ro = some (.inr (7, [.ref w, .ref im, .ref rd, .ref rc, .ref cu]))) (hc_w : M w = some (.inr (6, [.int 0, .int 2, .int 0, .int 0, .int 0, .int 0, .int 0, .int (-1), .ref cs, .ref bs, .ref tp]))) : mCi l yX9_bill cX9_bill 4 (some .int) 1 0 0 D kA M T sz [.ref ro, .int b, .int wh] (fun r u => (r = -2) ∧ u.2 = T ∧ u.1 = M) := by
  unfold mCi
  refine start_W (by decide) (Nat.le_of_ble_eq_true rfl) ?_
  intro p e s m below meth c ls hC hr hlk hnm hK hH hsz hl
  have hx := hC.1
  have hb := hC.2.1
  have hl : lv_has ls 4 [(0, .ref ro), (1, .int b), (2, .int wh)] := hl
  have n_ro_w : ro ≠ w := neM hc_ro hc_w (by simp)
  have n_w_ro : w ≠ ro := neM hc_w hc_ro (by simp)
  refine lv_aload_n hx hb dX9_bill_0 rfl (lv_at hl 0 rfl) ?_
  refine xg hC hK hH flX9_12 hc_ro rfl dX9_bill_1 ?_
  refine lv_iload_n hx hb dX9_bill_4 rfl (lv_at hl 1 rfl) ?_
  refine goI hK hH (runV (As := [.int b]) (rest := []) hC hK hH (c_X8_hasBill hc_w) mlX9_163 (rcvM hK hH hc_w rfl) ⟨⟨Nat.le_of_ble_eq_true rfl, Nat.le_of_ble_eq_true rfl⟩, Nat.le_of_ble_eq_true rfl, Nat.le_of_ble_eq_true rfl⟩ rfl hl.1 rfl (Nat.le_of_ble_eq_true rfl) dX9_bill_5) (fun r3 M1 T2 H locs hP hz hH => ?_)
  try dsimp only at hP
  obtain ⟨(⟨c4, rfl⟩ | ⟨c5, rfl⟩), eT, eM⟩ := hP
  · skip
    have eT := eT.symm; subst eT
    have eM := eM.symm; subst eM
    have c4 : 0 ≤ b.toInt ∧ b.toInt < (0 : Int) := c4
    exact absurd c4 (by omega)
  · skip
    have eT := eT.symm; subst eT
    have eM := eM.symm; subst eM
    have c5 : ¬ (0 ≤ b.toInt ∧ b.toInt < (0 : Int)) := c5
    refine jif_ne (tgt := 14) hx hb dX9_bill_8 (by decide) (fun c6 => absurd c6 (by decide)) (fun c6 => ?_)
    refine lv_bipush (v := -2) hx hb dX9_bill_11 (by decide) ?_
    exact ret_i hC hr hlk hK hH (⟨rfl, rfl, rfl⟩) (Nat.le_of_ble_eq_true rfl) (Nat.le_of_ble_eq_true rfl) dX9_bill_13
set_option maxHeartbeats 4000000 in
set_option maxRecDepth 100000 in
theorem c_X9_step {l : Launch} {D : va_G} {kA : Nat → ClassId} {M : mM} {T : mT} {sz : Nat} {ro im rd rc cu : Nat} {w cs bs tp : Nat} {b st wh : Int32} (hc_ro : M ro = some (.inr (7, [.ref w, .ref im, .ref rd, .ref rc, .ref cu]))) (hc_w : M w = some (.inr (6, [.int 0, .int 2, .int 0, .int 0, .int 0, .int 0, .int 0, .int (-1), .ref cs, .ref bs, .ref tp]))) : mCi l yX9_step cX9_step 5 (some .int) 1 0 0 D kA M T sz [.ref ro, .int b, .int st, .int wh] (fun r u => (r = -2) ∧ u.2 = T ∧ u.1 = M) := by
  unfold mCi
  refine start_W (by decide) (Nat.le_of_ble_eq_true rfl) ?_
  intro p e s m below meth c ls hC hr hlk hnm hK hH hsz hl
  have hx := hC.1
  have hb := hC.2.1
  have hl : lv_has ls 5 [(0, .ref ro), (1, .int b), (2, .int st), (3, .int wh)] := hl
  have n_ro_w : ro ≠ w := neM hc_ro hc_w (by simp)
  have n_w_ro : w ≠ ro := neM hc_w hc_ro (by simp)
  refine lv_aload_n hx hb dX9_step_0 rfl (lv_at hl 0 rfl) ?_
  refine xg hC hK hH flX9_12 hc_ro rfl dX9_step_1 ?_
  refine lv_iload_n hx hb dX9_step_4 rfl (lv_at hl 1 rfl) ?_
  refine goI hK hH (runV (As := [.int b]) (rest := []) hC hK hH (c_X8_hasBill hc_w) mlX9_163 (rcvM hK hH hc_w rfl) ⟨⟨Nat.le_of_ble_eq_true rfl, Nat.le_of_ble_eq_true rfl⟩, Nat.le_of_ble_eq_true rfl, Nat.le_of_ble_eq_true rfl⟩ rfl hl.1 rfl (Nat.le_of_ble_eq_true rfl) dX9_step_5) (fun r3 M1 T2 H locs hP hz hH => ?_)
  try dsimp only at hP
  obtain ⟨(⟨c4, rfl⟩ | ⟨c5, rfl⟩), eT, eM⟩ := hP
  · skip
    have eT := eT.symm; subst eT
    have eM := eM.symm; subst eM
    have c4 : 0 ≤ b.toInt ∧ b.toInt < (0 : Int) := c4
    exact absurd c4 (by omega)
  · skip
    have eT := eT.symm; subst eT
    have eM := eM.symm; subst eM
    have c5 : ¬ (0 ≤ b.toInt ∧ b.toInt < (0 : Int)) := c5
    refine jif_eq (tgt := 27) hx hb dX9_step_8 (by decide) (fun c6 => ?_) (fun c6 => absurd c6 (by decide))
    refine lv_bipush (v := -2) hx hb dX9_step_27 (by decide) ?_
    exact ret_i hC hr hlk hK hH (⟨rfl, rfl, rfl⟩) (Nat.le_of_ble_eq_true rfl) (Nat.le_of_ble_eq_true rfl) dX9_step_29
set_option maxHeartbeats 4000000 in
set_option maxRecDepth 100000 in
theorem c_X9_party {l : Launch} {D : va_G} {kA : Nat → ClassId} {M : mM} {T : mT} {sz : Nat} {ro im rd rc cu : Nat} {w cs bs tp : Nat} {b pt wh : Int32} (hc_ro : M ro = some (.inr (7, [.ref w, .ref im, .ref rd, .ref rc, .ref cu]))) (hc_w : M w = some (.inr (6, [.int 0, .int 2, .int 0, .int 0, .int 0, .int 0, .int 0, .int (-1), .ref cs, .ref bs, .ref tp]))) : mCi l yX9_party cX9_party 5 (some .int) 2 0 0 D kA M T sz [.ref ro, .int b, .int pt, .int wh] (fun r u => (r = -2) ∧ u.2 = T ∧ u.1 = M) := by
  unfold mCi
  refine start_W (by decide) (Nat.le_of_ble_eq_true rfl) ?_
  intro p e s m below meth c ls hC hr hlk hnm hK hH hsz hl
  have hx := hC.1
  have hb := hC.2.1
  have hl : lv_has ls 5 [(0, .ref ro), (1, .int b), (2, .int pt), (3, .int wh)] := hl
  have n_ro_w : ro ≠ w := neM hc_ro hc_w (by simp)
  have n_w_ro : w ≠ ro := neM hc_w hc_ro (by simp)
  refine lv_aload_n hx hb dX9_party_0 rfl (lv_at hl 0 rfl) ?_
  refine xg hC hK hH flX9_12 hc_ro rfl dX9_party_1 ?_
  refine lv_iload_n hx hb dX9_party_4 rfl (lv_at hl 1 rfl) ?_
  refine lv_iload_n hx hb dX9_party_5 rfl (lv_at hl 2 rfl) ?_
  refine goI hK hH (runV (As := [.int b, .int pt]) (rest := []) hC hK hH (c_X8_hasParty hc_w) mlX9_278 (rcvM hK hH hc_w rfl) ⟨⟨Nat.le_of_ble_eq_true rfl, Nat.le_of_ble_eq_true rfl⟩, Nat.le_of_ble_eq_true rfl, Nat.le_of_ble_eq_true rfl⟩ rfl hl.1 rfl (Nat.le_of_ble_eq_true rfl) dX9_party_6) (fun r3 M1 T2 H locs hP hz hH => ?_)
  try dsimp only at hP
  obtain ⟨(rfl), eT, eM⟩ := hP
  have eT := eT.symm; subst eT
  have eM := eM.symm; subst eM
  refine jif_ne (tgt := 15) hx hb dX9_party_9 (by decide) (fun c4 => absurd c4 (by decide)) (fun c4 => ?_)
  refine lv_bipush (v := -2) hx hb dX9_party_12 (by decide) ?_
  exact ret_i hC hr hlk hK hH (⟨rfl, rfl, rfl⟩) (Nat.le_of_ble_eq_true rfl) (Nat.le_of_ble_eq_true rfl) dX9_party_14
set_option maxHeartbeats 4000000 in
set_option maxRecDepth 100000 in
theorem c_X9_why {l : Launch} {D : va_G} {kA : Nat → ClassId} {M : mM} {T : mT} {sz : Nat} {ro im rd rc cu : Nat} {w cs bs tp : Nat} {b pt lv wh : Int32} (hc_ro : M ro = some (.inr (7, [.ref w, .ref im, .ref rd, .ref rc, .ref cu]))) (hc_w : M w = some (.inr (6, [.int 0, .int 2, .int 0, .int 0, .int 0, .int 0, .int 0, .int (-1), .ref cs, .ref bs, .ref tp]))) : mCi l yX9_why cX9_why 7 (some .int) 2 0 0 D kA M T sz [.ref ro, .int b, .int pt, .int lv, .int wh] (fun r u => (r = -2) ∧ u.2 = T ∧ u.1 = M) := by
  unfold mCi
  refine start_W (by decide) (Nat.le_of_ble_eq_true rfl) ?_
  intro p e s m below meth c ls hC hr hlk hnm hK hH hsz hl
  have hx := hC.1
  have hb := hC.2.1
  have hl : lv_has ls 7 [(0, .ref ro), (1, .int b), (2, .int pt), (3, .int lv), (4, .int wh)] := hl
  have n_ro_w : ro ≠ w := neM hc_ro hc_w (by simp)
  have n_w_ro : w ≠ ro := neM hc_w hc_ro (by simp)
  refine lv_aload_n hx hb dX9_why_0 rfl (lv_at hl 0 rfl) ?_
  refine xg hC hK hH flX9_12 hc_ro rfl dX9_why_1 ?_
  refine lv_iload_n hx hb dX9_why_4 rfl (lv_at hl 1 rfl) ?_
  refine lv_iload_n hx hb dX9_why_5 rfl (lv_at hl 2 rfl) ?_
  refine goI hK hH (runV (As := [.int b, .int pt]) (rest := []) hC hK hH (c_X8_hasParty hc_w) mlX9_278 (rcvM hK hH hc_w rfl) ⟨⟨Nat.le_of_ble_eq_true rfl, Nat.le_of_ble_eq_true rfl⟩, Nat.le_of_ble_eq_true rfl, Nat.le_of_ble_eq_true rfl⟩ rfl hl.1 rfl (Nat.le_of_ble_eq_true rfl) dX9_why_6) (fun r3 M1 T2 H locs hP hz hH => ?_)
  try dsimp only at hP
  obtain ⟨(rfl), eT, eM⟩ := hP
  have eT := eT.symm; subst eT
  have eM := eM.symm; subst eM
  refine jif_eq (tgt := 32) hx hb dX9_why_9 (by decide) (fun c4 => ?_) (fun c4 => absurd c4 (by decide))
  refine lv_bipush (v := -2) hx hb dX9_why_32 (by decide) ?_
  exact ret_i hC hr hlk hK hH (⟨rfl, rfl, rfl⟩) (Nat.le_of_ble_eq_true rfl) (Nat.le_of_ble_eq_true rfl) dX9_why_34
set_option maxHeartbeats 4000000 in
set_option maxRecDepth 100000 in
theorem c_X9_liable {l : Launch} {D : va_G} {kA : Nat → ClassId} {M : mM} {T : mT} {sz : Nat} {ro im rd rc cu : Nat} {w cs bs tp : Nat} {b : Int32} (hc_ro : M ro = some (.inr (7, [.ref w, .ref im, .ref rd, .ref rc, .ref cu]))) (hc_w : M w = some (.inr (6, [.int 0, .int 2, .int 0, .int 0, .int 0, .int 0, .int 0, .int (-1), .ref cs, .ref bs, .ref tp]))) : mCi l yX9_liable cX9_liable 5 (some .int) 1 0 0 D kA M T sz [.ref ro, .int b] (fun r u => (r = -2) ∧ u.2 = T ∧ u.1 = M) := by
  unfold mCi
  refine start_W (by decide) (Nat.le_of_ble_eq_true rfl) ?_
  intro p e s m below meth c ls hC hr hlk hnm hK hH hsz hl
  have hx := hC.1
  have hb := hC.2.1
  have hl : lv_has ls 5 [(0, .ref ro), (1, .int b)] := hl
  have n_ro_w : ro ≠ w := neM hc_ro hc_w (by simp)
  have n_w_ro : w ≠ ro := neM hc_w hc_ro (by simp)
  refine lv_aload_n hx hb dX9_liable_0 rfl (lv_at hl 0 rfl) ?_
  refine xg hC hK hH flX9_12 hc_ro rfl dX9_liable_1 ?_
  refine lv_iload_n hx hb dX9_liable_4 rfl (lv_at hl 1 rfl) ?_
  refine goI hK hH (runV (As := [.int b]) (rest := []) hC hK hH (c_X8_hasBill hc_w) mlX9_163 (rcvM hK hH hc_w rfl) ⟨⟨Nat.le_of_ble_eq_true rfl, Nat.le_of_ble_eq_true rfl⟩, Nat.le_of_ble_eq_true rfl, Nat.le_of_ble_eq_true rfl⟩ rfl hl.1 rfl (Nat.le_of_ble_eq_true rfl) dX9_liable_5) (fun r3 M1 T2 H locs hP hz hH => ?_)
  try dsimp only at hP
  obtain ⟨(⟨c4, rfl⟩ | ⟨c5, rfl⟩), eT, eM⟩ := hP
  · skip
    have eT := eT.symm; subst eT
    have eM := eM.symm; subst eM
    have c4 : 0 ≤ b.toInt ∧ b.toInt < (0 : Int) := c4
    exact absurd c4 (by omega)
  · skip
    have eT := eT.symm; subst eT
    have eM := eM.symm; subst eM
    have c5 : ¬ (0 ≤ b.toInt ∧ b.toInt < (0 : Int)) := c5
    refine jif_ne (tgt := 14) hx hb dX9_liable_8 (by decide) (fun c6 => absurd c6 (by decide)) (fun c6 => ?_)
    refine lv_bipush (v := -2) hx hb dX9_liable_11 (by decide) ?_
    exact ret_i hC hr hlk hK hH (⟨rfl, rfl, rfl⟩) (Nat.le_of_ble_eq_true rfl) (Nat.le_of_ble_eq_true rfl) dX9_liable_13
set_option maxHeartbeats 4000000 in
set_option maxRecDepth 100000 in
theorem c_X9_reach {l : Launch} {D : va_G} {kA : Nat → ClassId} {M : mM} {T : mT} {sz : Nat} {ro im rd rc cu : Nat} {w cs bs tp : Nat} {b : Int32} (hc_ro : M ro = some (.inr (7, [.ref w, .ref im, .ref rd, .ref rc, .ref cu]))) (hc_w : M w = some (.inr (6, [.int 0, .int 2, .int 0, .int 0, .int 0, .int 0, .int 0, .int (-1), .ref cs, .ref bs, .ref tp]))) : mCi l yX9_reach cX9_reach 5 (some .int) 1 0 0 D kA M T sz [.ref ro, .int b] (fun r u => (r = -2) ∧ u.2 = T ∧ u.1 = M) := by
  unfold mCi
  refine start_W (by decide) (Nat.le_of_ble_eq_true rfl) ?_
  intro p e s m below meth c ls hC hr hlk hnm hK hH hsz hl
  have hx := hC.1
  have hb := hC.2.1
  have hl : lv_has ls 5 [(0, .ref ro), (1, .int b)] := hl
  have n_ro_w : ro ≠ w := neM hc_ro hc_w (by simp)
  have n_w_ro : w ≠ ro := neM hc_w hc_ro (by simp)
  refine lv_aload_n hx hb dX9_reach_0 rfl (lv_at hl 0 rfl) ?_
  refine xg hC hK hH flX9_12 hc_ro rfl dX9_reach_1 ?_
  refine lv_iload_n hx hb dX9_reach_4 rfl (lv_at hl 1 rfl) ?_
  refine goI hK hH (runV (As := [.int b]) (rest := []) hC hK hH (c_X8_hasBill hc_w) mlX9_163 (rcvM hK hH hc_w rfl) ⟨⟨Nat.le_of_ble_eq_true rfl, Nat.le_of_ble_eq_true rfl⟩, Nat.le_of_ble_eq_true rfl, Nat.le_of_ble_eq_true rfl⟩ rfl hl.1 rfl (Nat.le_of_ble_eq_true rfl) dX9_reach_5) (fun r3 M1 T2 H locs hP hz hH => ?_)
  try dsimp only at hP
  obtain ⟨(⟨c4, rfl⟩ | ⟨c5, rfl⟩), eT, eM⟩ := hP
  · skip
    have eT := eT.symm; subst eT
    have eM := eM.symm; subst eM
    have c4 : 0 ≤ b.toInt ∧ b.toInt < (0 : Int) := c4
    exact absurd c4 (by omega)
  · skip
    have eT := eT.symm; subst eT
    have eM := eM.symm; subst eM
    have c5 : ¬ (0 ≤ b.toInt ∧ b.toInt < (0 : Int)) := c5
    refine jif_ne (tgt := 14) hx hb dX9_reach_8 (by decide) (fun c6 => absurd c6 (by decide)) (fun c6 => ?_)
    refine lv_bipush (v := -2) hx hb dX9_reach_11 (by decide) ?_
    exact ret_i hC hr hlk hK hH (⟨rfl, rfl, rfl⟩) (Nat.le_of_ble_eq_true rfl) (Nat.le_of_ble_eq_true rfl) dX9_reach_13
set_option maxHeartbeats 4000000 in
set_option maxRecDepth 100000 in
theorem c_X9_run {l : Launch} {D : va_G} {kA : Nat → ClassId} {M : mM} {T : mT} {sz : Nat} {ro im rd rc cu : Nat} {w cs bs tp : Nat} {b k : Int32} (hc_ro : M ro = some (.inr (7, [.ref w, .ref im, .ref rd, .ref rc, .ref cu]))) (hc_w : M w = some (.inr (6, [.int 0, .int 2, .int 0, .int 0, .int 0, .int 0, .int 0, .int (-1), .ref cs, .ref bs, .ref tp]))) : mCi l yX9_run cX9_run 3 (some .int) 1 0 0 D kA M T sz [.ref ro, .int b, .int k] (fun r u => (r = -2) ∧ u.2 = T ∧ u.1 = M) := by
  unfold mCi
  refine start_W (by decide) (Nat.le_of_ble_eq_true rfl) ?_
  intro p e s m below meth c ls hC hr hlk hnm hK hH hsz hl
  have hx := hC.1
  have hb := hC.2.1
  have hl : lv_has ls 3 [(0, .ref ro), (1, .int b), (2, .int k)] := hl
  have n_ro_w : ro ≠ w := neM hc_ro hc_w (by simp)
  have n_w_ro : w ≠ ro := neM hc_w hc_ro (by simp)
  refine lv_aload_n hx hb dX9_run_0 rfl (lv_at hl 0 rfl) ?_
  refine xg hC hK hH flX9_12 hc_ro rfl dX9_run_1 ?_
  refine lv_iload_n hx hb dX9_run_4 rfl (lv_at hl 1 rfl) ?_
  refine goI hK hH (runV (As := [.int b]) (rest := []) hC hK hH (c_X8_hasBill hc_w) mlX9_163 (rcvM hK hH hc_w rfl) ⟨⟨Nat.le_of_ble_eq_true rfl, Nat.le_of_ble_eq_true rfl⟩, Nat.le_of_ble_eq_true rfl, Nat.le_of_ble_eq_true rfl⟩ rfl hl.1 rfl (Nat.le_of_ble_eq_true rfl) dX9_run_5) (fun r3 M1 T2 H locs hP hz hH => ?_)
  try dsimp only at hP
  obtain ⟨(⟨c4, rfl⟩ | ⟨c5, rfl⟩), eT, eM⟩ := hP
  · skip
    have eT := eT.symm; subst eT
    have eM := eM.symm; subst eM
    have c4 : 0 ≤ b.toInt ∧ b.toInt < (0 : Int) := c4
    exact absurd c4 (by omega)
  · skip
    have eT := eT.symm; subst eT
    have eM := eM.symm; subst eM
    have c5 : ¬ (0 ≤ b.toInt ∧ b.toInt < (0 : Int)) := c5
    refine jif_ne (tgt := 14) hx hb dX9_run_8 (by decide) (fun c6 => absurd c6 (by decide)) (fun c6 => ?_)
    refine lv_bipush (v := -2) hx hb dX9_run_11 (by decide) ?_
    exact ret_i hC hr hlk hK hH (⟨rfl, rfl, rfl⟩) (Nat.le_of_ble_eq_true rfl) (Nat.le_of_ble_eq_true rfl) dX9_run_13
set_option maxHeartbeats 4000000 in
set_option maxRecDepth 100000 in
theorem c_X9_gains {l : Launch} {D : va_G} {kA : Nat → ClassId} {M : mM} {T : mT} {sz : Nat} {ro im rd rc cu : Nat} {w cs bs tp : Nat} {b ps : Int32} (hc_ro : M ro = some (.inr (7, [.ref w, .ref im, .ref rd, .ref rc, .ref cu]))) (hc_w : M w = some (.inr (6, [.int 0, .int 2, .int 0, .int 0, .int 0, .int 0, .int 0, .int (-1), .ref cs, .ref bs, .ref tp]))) : mCi l yX9_gains cX9_gains 3 (some .int) 1 0 0 D kA M T sz [.ref ro, .int b, .int ps] (fun r u => (r = 0) ∧ u.2 = T ∧ u.1 = M) := by
  unfold mCi
  refine start_W (by decide) (Nat.le_of_ble_eq_true rfl) ?_
  intro p e s m below meth c ls hC hr hlk hnm hK hH hsz hl
  have hx := hC.1
  have hb := hC.2.1
  have hl : lv_has ls 3 [(0, .ref ro), (1, .int b), (2, .int ps)] := hl
  have n_ro_w : ro ≠ w := neM hc_ro hc_w (by simp)
  have n_w_ro : w ≠ ro := neM hc_w hc_ro (by simp)
  refine lv_aload_n hx hb dX9_gains_0 rfl (lv_at hl 0 rfl) ?_
  refine xg hC hK hH flX9_12 hc_ro rfl dX9_gains_1 ?_
  refine lv_iload_n hx hb dX9_gains_4 rfl (lv_at hl 1 rfl) ?_
  refine goI hK hH (runV (As := [.int b]) (rest := []) hC hK hH (c_X8_hasBill hc_w) mlX9_163 (rcvM hK hH hc_w rfl) ⟨⟨Nat.le_of_ble_eq_true rfl, Nat.le_of_ble_eq_true rfl⟩, Nat.le_of_ble_eq_true rfl, Nat.le_of_ble_eq_true rfl⟩ rfl hl.1 rfl (Nat.le_of_ble_eq_true rfl) dX9_gains_5) (fun r3 M1 T2 H locs hP hz hH => ?_)
  try dsimp only at hP
  obtain ⟨(⟨c4, rfl⟩ | ⟨c5, rfl⟩), eT, eM⟩ := hP
  · skip
    have eT := eT.symm; subst eT
    have eM := eM.symm; subst eM
    have c4 : 0 ≤ b.toInt ∧ b.toInt < (0 : Int) := c4
    exact absurd c4 (by omega)
  · skip
    have eT := eT.symm; subst eT
    have eM := eM.symm; subst eM
    have c5 : ¬ (0 ≤ b.toInt ∧ b.toInt < (0 : Int)) := c5
    refine jif_eq (tgt := 18) hx hb dX9_gains_8 (by decide) (fun c6 => ?_) (fun c6 => absurd c6 (by decide))
    refine lv_iconst (v := 0) hx hb dX9_gains_18 (by decide) ?_
    exact ret_i hC hr hlk hK hH (⟨rfl, rfl, rfl⟩) (Nat.le_of_ble_eq_true rfl) (Nat.le_of_ble_eq_true rfl) dX9_gains_19
set_option maxHeartbeats 4000000 in
set_option maxRecDepth 100000 in
theorem c_X9_ends {l : Launch} {D : va_G} {kA : Nat → ClassId} {M : mM} {T : mT} {sz : Nat} {ro im rd rc cu : Nat} {w cs bs tp : Nat} {b : Int32} (hc_ro : M ro = some (.inr (7, [.ref w, .ref im, .ref rd, .ref rc, .ref cu]))) (hc_w : M w = some (.inr (6, [.int 0, .int 2, .int 0, .int 0, .int 0, .int 0, .int 0, .int (-1), .ref cs, .ref bs, .ref tp]))) : mCi l yX9_ends cX9_ends 2 (some .int) 1 0 0 D kA M T sz [.ref ro, .int b] (fun r u => (r = -1) ∧ u.2 = T ∧ u.1 = M) := by
  unfold mCi
  refine start_W (by decide) (Nat.le_of_ble_eq_true rfl) ?_
  intro p e s m below meth c ls hC hr hlk hnm hK hH hsz hl
  have hx := hC.1
  have hb := hC.2.1
  have hl : lv_has ls 2 [(0, .ref ro), (1, .int b)] := hl
  have n_ro_w : ro ≠ w := neM hc_ro hc_w (by simp)
  have n_w_ro : w ≠ ro := neM hc_w hc_ro (by simp)
  refine lv_aload_n hx hb dX9_ends_0 rfl (lv_at hl 0 rfl) ?_
  refine xg hC hK hH flX9_12 hc_ro rfl dX9_ends_1 ?_
  refine lv_iload_n hx hb dX9_ends_4 rfl (lv_at hl 1 rfl) ?_
  refine goI hK hH (runV (As := [.int b]) (rest := []) hC hK hH (c_X8_hasBill hc_w) mlX9_163 (rcvM hK hH hc_w rfl) ⟨⟨Nat.le_of_ble_eq_true rfl, Nat.le_of_ble_eq_true rfl⟩, Nat.le_of_ble_eq_true rfl, Nat.le_of_ble_eq_true rfl⟩ rfl hl.1 rfl (Nat.le_of_ble_eq_true rfl) dX9_ends_5) (fun r3 M1 T2 H locs hP hz hH => ?_)
  try dsimp only at hP
  obtain ⟨(⟨c4, rfl⟩ | ⟨c5, rfl⟩), eT, eM⟩ := hP
  · skip
    have eT := eT.symm; subst eT
    have eM := eM.symm; subst eM
    have c4 : 0 ≤ b.toInt ∧ b.toInt < (0 : Int) := c4
    exact absurd c4 (by omega)
  · skip
    have eT := eT.symm; subst eT
    have eM := eM.symm; subst eM
    have c5 : ¬ (0 ≤ b.toInt ∧ b.toInt < (0 : Int)) := c5
    refine jif_ne (tgt := 13) hx hb dX9_ends_8 (by decide) (fun c6 => absurd c6 (by decide)) (fun c6 => ?_)
    refine lv_iconst (v := -1) hx hb dX9_ends_11 (by decide) ?_
    exact ret_i hC hr hlk hK hH (⟨rfl, rfl, rfl⟩) (Nat.le_of_ble_eq_true rfl) (Nat.le_of_ble_eq_true rfl) dX9_ends_12
set_option maxHeartbeats 4000000 in
set_option maxRecDepth 100000 in
theorem c_X9_owes {l : Launch} {D : va_G} {kA : Nat → ClassId} {M : mM} {T : mT} {sz : Nat} {ro im rd rc cu : Nat} {w cs bs tp : Nat} {ps : Int32} (hc_ro : M ro = some (.inr (7, [.ref w, .ref im, .ref rd, .ref rc, .ref cu]))) (hc_w : M w = some (.inr (6, [.int 0, .int 2, .int 0, .int 0, .int 0, .int 0, .int 0, .int (-1), .ref cs, .ref bs, .ref tp]))) : mCi l yX9_owes cX9_owes 4 (some .int) 1 0 0 D kA M T sz [.ref ro, .int ps] (fun r u => (((0 ≤ ps.toInt ∧ ps.toInt ≤ 7) ∧ r = 0) ∨ ((¬ (0 ≤ ps.toInt ∧ ps.toInt ≤ 7)) ∧ r = -1)) ∧ u.2 = T ∧ u.1 = M) := by
  unfold mCi
  refine start_W (by decide) (Nat.le_of_ble_eq_true rfl) ?_
  intro p e s m below meth c ls hC hr hlk hnm hK hH hsz hl
  have hx := hC.1
  have hb := hC.2.1
  have hl : lv_has ls 4 [(0, .ref ro), (1, .int ps)] := hl
  have n_ro_w : ro ≠ w := neM hc_ro hc_w (by simp)
  have n_w_ro : w ≠ ro := neM hc_w hc_ro (by simp)
  refine lv_iload_n hx hb dX9_owes_0 rfl (lv_at hl 1 rfl) ?_
  refine goI hK hH (runS (As := [.int ps]) (rest := []) hC hK hH (c_X9_isPerson) mlX9_155 ⟨⟨Nat.le_of_ble_eq_true rfl, Nat.le_of_ble_eq_true rfl⟩, Nat.le_of_ble_eq_true rfl, Nat.le_of_ble_eq_true rfl⟩ rfl hl.1 rfl (Nat.le_of_ble_eq_true rfl) dX9_owes_1) (fun r3 M1 T2 H locs hP hz hH => ?_)
  try dsimp only at hP
  obtain ⟨(⟨c4, rfl⟩ | ⟨c5, rfl⟩), eT, eM⟩ := hP
  · skip
    have eT := eT.symm; subst eT
    have eM := eM.symm; subst eM
    have c4 : 0 ≤ ps.toInt ∧ ps.toInt ≤ 7 := c4
    refine jif_ne (tgt := 9) hx hb dX9_owes_4 (by decide) (fun c6 => ?_) (fun c6 => absurd c6 (by decide))
    refine lv_iconst (v := 0) hx hb dX9_owes_9 (by decide) ?_
    refine lv_istore_n (lv' := [(2, .int 0), (0, .ref ro), (1, .int ps)]) hx hb dX9_owes_10 rfl hl (by decide) rfl (fun ls hl => ?_)
    refine lv_iconst (v := 0) hx hb dX9_owes_11 (by decide) ?_
    refine lv_istore_n (lv' := [(3, .int 0), (2, .int 0), (0, .ref ro), (1, .int ps)]) hx hb dX9_owes_12 rfl hl (by decide) rfl (fun ls hl => ?_)
    refine lv_iload_n hx hb dX9_owes_13 rfl (lv_at hl 0 rfl) ?_
    refine lv_aload_n hx hb dX9_owes_14 rfl (lv_at hl 2 rfl) ?_
    refine xg hC hK hH flX9_12 hc_ro rfl dX9_owes_15 ?_
    refine xg hC hK hH flX9_97 hc_w rfl dX9_owes_18 ?_
    refine jic_ge (tgt := 68) hx hb dX9_owes_21 (by decide) (fun c7 => ?_) (fun c7 => absurd c7 (by decide))
    refine lv_iload_n hx hb dX9_owes_68 rfl (lv_at hl 1 rfl) ?_
    exact ret_i hC hr hlk hK hH (⟨Or.inl (⟨by omega, rfl⟩), rfl, rfl⟩) (Nat.le_of_ble_eq_true rfl) (Nat.le_of_ble_eq_true rfl) dX9_owes_69
  · skip
    have eT := eT.symm; subst eT
    have eM := eM.symm; subst eM
    have c5 : ¬ (0 ≤ ps.toInt ∧ ps.toInt ≤ 7) := c5
    refine jif_ne (tgt := 9) hx hb dX9_owes_4 (by decide) (fun c8 => absurd c8 (by decide)) (fun c8 => ?_)
    refine lv_iconst (v := -1) hx hb dX9_owes_7 (by decide) ?_
    exact ret_i hC hr hlk hK hH (⟨Or.inr (⟨by omega, rfl⟩), rfl, rfl⟩) (Nat.le_of_ble_eq_true rfl) (Nat.le_of_ble_eq_true rfl) dX9_owes_8
set_option maxHeartbeats 4000000 in
set_option maxRecDepth 100000 in
theorem c_X9_worth {l : Launch} {D : va_G} {kA : Nat → ClassId} {M : mM} {T : mT} {sz : Nat} {ro im rd rc cu : Nat} {w cs bs tp : Nat} {ps : Int32} (hc_ro : M ro = some (.inr (7, [.ref w, .ref im, .ref rd, .ref rc, .ref cu]))) (hc_w : M w = some (.inr (6, [.int 0, .int 2, .int 0, .int 0, .int 0, .int 0, .int 0, .int (-1), .ref cs, .ref bs, .ref tp]))) : mCi l yX9_worth cX9_worth 5 (some .int) 1 0 0 D kA M T sz [.ref ro, .int ps] (fun r u => (((0 ≤ ps.toInt ∧ ps.toInt ≤ 7) ∧ r = 0) ∨ ((¬ (0 ≤ ps.toInt ∧ ps.toInt ≤ 7)) ∧ r = -1)) ∧ u.2 = T ∧ u.1 = M) := by
  unfold mCi
  refine start_W (by decide) (Nat.le_of_ble_eq_true rfl) ?_
  intro p e s m below meth c ls hC hr hlk hnm hK hH hsz hl
  have hx := hC.1
  have hb := hC.2.1
  have hl : lv_has ls 5 [(0, .ref ro), (1, .int ps)] := hl
  have n_ro_w : ro ≠ w := neM hc_ro hc_w (by simp)
  have n_w_ro : w ≠ ro := neM hc_w hc_ro (by simp)
  refine lv_iload_n hx hb dX9_worth_0 rfl (lv_at hl 1 rfl) ?_
  refine goI hK hH (runS (As := [.int ps]) (rest := []) hC hK hH (c_X9_isPerson) mlX9_155 ⟨⟨Nat.le_of_ble_eq_true rfl, Nat.le_of_ble_eq_true rfl⟩, Nat.le_of_ble_eq_true rfl, Nat.le_of_ble_eq_true rfl⟩ rfl hl.1 rfl (Nat.le_of_ble_eq_true rfl) dX9_worth_1) (fun r3 M1 T2 H locs hP hz hH => ?_)
  try dsimp only at hP
  obtain ⟨(⟨c4, rfl⟩ | ⟨c5, rfl⟩), eT, eM⟩ := hP
  · skip
    have eT := eT.symm; subst eT
    have eM := eM.symm; subst eM
    have c4 : 0 ≤ ps.toInt ∧ ps.toInt ≤ 7 := c4
    refine jif_ne (tgt := 9) hx hb dX9_worth_4 (by decide) (fun c6 => ?_) (fun c6 => absurd c6 (by decide))
    refine lv_iconst (v := 0) hx hb dX9_worth_9 (by decide) ?_
    refine lv_istore_n (lv' := [(2, .int 0), (0, .ref ro), (1, .int ps)]) hx hb dX9_worth_10 rfl hl (by decide) rfl (fun ls hl => ?_)
    refine lv_iconst (v := 0) hx hb dX9_worth_11 (by decide) ?_
    refine lv_istore_n (lv' := [(3, .int 0), (2, .int 0), (0, .ref ro), (1, .int ps)]) hx hb dX9_worth_12 rfl hl (by decide) rfl (fun ls hl => ?_)
    refine lv_iload_n hx hb dX9_worth_13 rfl (lv_at hl 0 rfl) ?_
    refine lv_aload_n hx hb dX9_worth_14 rfl (lv_at hl 2 rfl) ?_
    refine xg hC hK hH flX9_12 hc_ro rfl dX9_worth_15 ?_
    refine xg hC hK hH flX9_97 hc_w rfl dX9_worth_18 ?_
    refine jic_ge (tgt := 81) hx hb dX9_worth_21 (by decide) (fun c7 => ?_) (fun c7 => absurd c7 (by decide))
    refine lv_iload_n hx hb dX9_worth_81 rfl (lv_at hl 1 rfl) ?_
    exact ret_i hC hr hlk hK hH (⟨Or.inl (⟨by omega, rfl⟩), rfl, rfl⟩) (Nat.le_of_ble_eq_true rfl) (Nat.le_of_ble_eq_true rfl) dX9_worth_82
  · skip
    have eT := eT.symm; subst eT
    have eM := eM.symm; subst eM
    have c5 : ¬ (0 ≤ ps.toInt ∧ ps.toInt ≤ 7) := c5
    refine jif_ne (tgt := 9) hx hb dX9_worth_4 (by decide) (fun c8 => absurd c8 (by decide)) (fun c8 => ?_)
    refine lv_iconst (v := -1) hx hb dX9_worth_7 (by decide) ?_
    exact ret_i hC hr hlk hK hH (⟨Or.inr (⟨by omega, rfl⟩), rfl, rfl⟩) (Nat.le_of_ble_eq_true rfl) (Nat.le_of_ble_eq_true rfl) dX9_worth_8
set_option maxHeartbeats 4000000 in
set_option maxRecDepth 100000 in
theorem c_X9_until {l : Launch} {D : va_G} {kA : Nat → ClassId} {M : mM} {T : mT} {sz : Nat} {ro im rd rc cu : Nat} {w cs bs tp : Nat} {b pt : Int32} (hc_ro : M ro = some (.inr (7, [.ref w, .ref im, .ref rd, .ref rc, .ref cu]))) (hc_w : M w = some (.inr (6, [.int 0, .int 2, .int 0, .int 0, .int 0, .int 0, .int 0, .int (-1), .ref cs, .ref bs, .ref tp]))) : mCi l yX9_until cX9_until 3 (some .int) 2 0 0 D kA M T sz [.ref ro, .int b, .int pt] (fun r u => (r = -1) ∧ u.2 = T ∧ u.1 = M) := by
  unfold mCi
  refine start_W (by decide) (Nat.le_of_ble_eq_true rfl) ?_
  intro p e s m below meth c ls hC hr hlk hnm hK hH hsz hl
  have hx := hC.1
  have hb := hC.2.1
  have hl : lv_has ls 3 [(0, .ref ro), (1, .int b), (2, .int pt)] := hl
  have n_ro_w : ro ≠ w := neM hc_ro hc_w (by simp)
  have n_w_ro : w ≠ ro := neM hc_w hc_ro (by simp)
  refine lv_aload_n hx hb dX9_until_0 rfl (lv_at hl 0 rfl) ?_
  refine xg hC hK hH flX9_12 hc_ro rfl dX9_until_1 ?_
  refine lv_iload_n hx hb dX9_until_4 rfl (lv_at hl 1 rfl) ?_
  refine lv_iload_n hx hb dX9_until_5 rfl (lv_at hl 2 rfl) ?_
  refine goI hK hH (runV (As := [.int b, .int pt]) (rest := []) hC hK hH (c_X8_hasParty hc_w) mlX9_278 (rcvM hK hH hc_w rfl) ⟨⟨Nat.le_of_ble_eq_true rfl, Nat.le_of_ble_eq_true rfl⟩, Nat.le_of_ble_eq_true rfl, Nat.le_of_ble_eq_true rfl⟩ rfl hl.1 rfl (Nat.le_of_ble_eq_true rfl) dX9_until_6) (fun r3 M1 T2 H locs hP hz hH => ?_)
  try dsimp only at hP
  obtain ⟨(rfl), eT, eM⟩ := hP
  have eT := eT.symm; subst eT
  have eM := eM.symm; subst eM
  refine jif_eq (tgt := 35) hx hb dX9_until_9 (by decide) (fun c4 => ?_) (fun c4 => absurd c4 (by decide))
  refine lv_iconst (v := -1) hx hb dX9_until_35 (by decide) ?_
  exact ret_i hC hr hlk hK hH (⟨rfl, rfl, rfl⟩) (Nat.le_of_ble_eq_true rfl) (Nat.le_of_ble_eq_true rfl) dX9_until_36
set_option maxHeartbeats 4000000 in
set_option maxRecDepth 100000 in
theorem c_X9_sorts {l : Launch} {D : va_G} {kA : Nat → ClassId} {M : mM} {T : mT} {sz : Nat} {ro im rd rc cu : Nat} {w cs bs tp : Nat} {b so : Int32} (hc_ro : M ro = some (.inr (7, [.ref w, .ref im, .ref rd, .ref rc, .ref cu]))) (hc_w : M w = some (.inr (6, [.int 0, .int 2, .int 0, .int 0, .int 0, .int 0, .int 0, .int (-1), .ref cs, .ref bs, .ref tp]))) : mCi l yX9_sorts cX9_sorts 7 (some .int) 1 0 0 D kA M T sz [.ref ro, .int b, .int so] (fun r u => (r = -2) ∧ u.2 = T ∧ u.1 = M) := by
  unfold mCi
  refine start_W (by decide) (Nat.le_of_ble_eq_true rfl) ?_
  intro p e s m below meth c ls hC hr hlk hnm hK hH hsz hl
  have hx := hC.1
  have hb := hC.2.1
  have hl : lv_has ls 7 [(0, .ref ro), (1, .int b), (2, .int so)] := hl
  have n_ro_w : ro ≠ w := neM hc_ro hc_w (by simp)
  have n_w_ro : w ≠ ro := neM hc_w hc_ro (by simp)
  refine lv_aload_n hx hb dX9_sorts_0 rfl (lv_at hl 0 rfl) ?_
  refine xg hC hK hH flX9_12 hc_ro rfl dX9_sorts_1 ?_
  refine lv_iload_n hx hb dX9_sorts_4 rfl (lv_at hl 1 rfl) ?_
  refine goI hK hH (runV (As := [.int b]) (rest := []) hC hK hH (c_X8_hasBill hc_w) mlX9_163 (rcvM hK hH hc_w rfl) ⟨⟨Nat.le_of_ble_eq_true rfl, Nat.le_of_ble_eq_true rfl⟩, Nat.le_of_ble_eq_true rfl, Nat.le_of_ble_eq_true rfl⟩ rfl hl.1 rfl (Nat.le_of_ble_eq_true rfl) dX9_sorts_5) (fun r3 M1 T2 H locs hP hz hH => ?_)
  try dsimp only at hP
  obtain ⟨(⟨c4, rfl⟩ | ⟨c5, rfl⟩), eT, eM⟩ := hP
  · skip
    have eT := eT.symm; subst eT
    have eM := eM.symm; subst eM
    have c4 : 0 ≤ b.toInt ∧ b.toInt < (0 : Int) := c4
    exact absurd c4 (by omega)
  · skip
    have eT := eT.symm; subst eT
    have eM := eM.symm; subst eM
    have c5 : ¬ (0 ≤ b.toInt ∧ b.toInt < (0 : Int)) := c5
    refine jif_eq (tgt := 20) hx hb dX9_sorts_8 (by decide) (fun c6 => ?_) (fun c6 => absurd c6 (by decide))
    refine lv_bipush (v := -2) hx hb dX9_sorts_20 (by decide) ?_
    exact ret_i hC hr hlk hK hH (⟨rfl, rfl, rfl⟩) (Nat.le_of_ble_eq_true rfl) (Nat.le_of_ble_eq_true rfl) dX9_sorts_22
end
section
theorem dJ7_fill_53178_0 : decode cJ7_fill_53178 0 = .ok (.iconst 0, 1) := by decide +kernel
theorem dJ7_fill_53178_1 : decode cJ7_fill_53178 1 = .ok (.istore_n 2, 1) := by decide +kernel
theorem dJ7_fill_53178_2 : decode cJ7_fill_53178 2 = .ok (.aload_n 0, 1) := by decide +kernel
theorem dJ7_fill_53178_3 : decode cJ7_fill_53178 3 = .ok (.arraylength, 1) := by decide +kernel
theorem dJ7_fill_53178_4 : decode cJ7_fill_53178 4 = .ok (.istore_n 3, 1) := by decide +kernel
theorem dJ7_fill_53178_5 : decode cJ7_fill_53178 5 = .ok (.iload_n 2, 1) := by decide +kernel
theorem dJ7_fill_53178_6 : decode cJ7_fill_53178 6 = .ok (.iload_n 3, 1) := by decide +kernel
theorem dJ7_fill_53178_7 : decode cJ7_fill_53178 7 = .ok (.if_icmp .ge 13, 3) := by decide +kernel
theorem dJ7_fill_53178_10 : decode cJ7_fill_53178 10 = .ok (.aload_n 0, 1) := by decide +kernel
theorem dJ7_fill_53178_11 : decode cJ7_fill_53178 11 = .ok (.iload_n 2, 1) := by decide +kernel
theorem dJ7_fill_53178_12 : decode cJ7_fill_53178 12 = .ok (.iload_n 1, 1) := by decide +kernel
theorem dJ7_fill_53178_13 : decode cJ7_fill_53178 13 = .ok (.iastore, 1) := by decide +kernel
theorem dJ7_fill_53178_14 : decode cJ7_fill_53178 14 = .ok (.iinc 2 1, 3) := by decide +kernel
theorem dJ7_fill_53178_17 : decode cJ7_fill_53178 17 = .ok (.goto (-12), 3) := by decide +kernel
theorem dJ7_fill_53178_20 : decode cJ7_fill_53178 20 = .ok (.return_, 1) := by decide +kernel
theorem dX1_begin_0 : decode cX1_begin 0 = .ok (.aload_n 0, 1) := by decide +kernel
theorem dX1_begin_1 : decode cX1_begin 1 = .ok (.iload_n 1, 1) := by decide +kernel
theorem dX1_begin_2 : decode cX1_begin 2 = .ok (.putfield 41, 3) := by decide +kernel
theorem dX1_begin_5 : decode cX1_begin 5 = .ok (.aload_n 0, 1) := by decide +kernel
theorem dX1_begin_6 : decode cX1_begin 6 = .ok (.iload_n 2, 1) := by decide +kernel
theorem dX1_begin_7 : decode cX1_begin 7 = .ok (.putfield 45, 3) := by decide +kernel
theorem dX1_begin_10 : decode cX1_begin 10 = .ok (.aload_n 0, 1) := by decide +kernel
theorem dX1_begin_11 : decode cX1_begin 11 = .ok (.iload_n 3, 1) := by decide +kernel
theorem dX1_begin_12 : decode cX1_begin 12 = .ok (.putfield 48, 3) := by decide +kernel
theorem dX1_begin_15 : decode cX1_begin 15 = .ok (.aload_n 0, 1) := by decide +kernel
theorem dX1_begin_16 : decode cX1_begin 16 = .ok (.iload 4, 2) := by decide +kernel
theorem dX1_begin_18 : decode cX1_begin 18 = .ok (.putfield 51, 3) := by decide +kernel
theorem dX1_begin_21 : decode cX1_begin 21 = .ok (.aload_n 0, 1) := by decide +kernel
theorem dX1_begin_22 : decode cX1_begin 22 = .ok (.iload_n 3, 1) := by decide +kernel
theorem dX1_begin_23 : decode cX1_begin 23 = .ok (.putfield 55, 3) := by decide +kernel
theorem dX1_begin_26 : decode cX1_begin 26 = .ok (.aload_n 0, 1) := by decide +kernel
theorem dX1_begin_27 : decode cX1_begin 27 = .ok (.iconst (-1), 1) := by decide +kernel
theorem dX1_begin_28 : decode cX1_begin 28 = .ok (.putfield 58, 3) := by decide +kernel
theorem dX1_begin_31 : decode cX1_begin 31 = .ok (.aload_n 0, 1) := by decide +kernel
theorem dX1_begin_32 : decode cX1_begin 32 = .ok (.iconst 0, 1) := by decide +kernel
theorem dX1_begin_33 : decode cX1_begin 33 = .ok (.putfield 61, 3) := by decide +kernel
theorem dX1_begin_36 : decode cX1_begin 36 = .ok (.aload_n 0, 1) := by decide +kernel
theorem dX1_begin_37 : decode cX1_begin 37 = .ok (.iconst 0, 1) := by decide +kernel
theorem dX1_begin_38 : decode cX1_begin 38 = .ok (.putfield 64, 3) := by decide +kernel
theorem dX1_begin_41 : decode cX1_begin 41 = .ok (.aload_n 0, 1) := by decide +kernel
theorem dX1_begin_42 : decode cX1_begin 42 = .ok (.iconst 0, 1) := by decide +kernel
theorem dX1_begin_43 : decode cX1_begin 43 = .ok (.putfield 67, 3) := by decide +kernel
theorem dX1_begin_46 : decode cX1_begin 46 = .ok (.aload_n 0, 1) := by decide +kernel
theorem dX1_begin_47 : decode cX1_begin 47 = .ok (.iconst 0, 1) := by decide +kernel
theorem dX1_begin_48 : decode cX1_begin 48 = .ok (.putfield 70, 3) := by decide +kernel
theorem dX1_begin_51 : decode cX1_begin 51 = .ok (.aload_n 0, 1) := by decide +kernel
theorem dX1_begin_52 : decode cX1_begin 52 = .ok (.getfield 20, 3) := by decide +kernel
theorem dX1_begin_55 : decode cX1_begin 55 = .ok (.iload_n 3, 1) := by decide +kernel
theorem dX1_begin_56 : decode cX1_begin 56 = .ok (.iload 4, 2) := by decide +kernel
theorem dX1_begin_58 : decode cX1_begin 58 = .ok (.invokevirtual 73, 3) := by decide +kernel
theorem dX1_begin_61 : decode cX1_begin 61 = .ok (.aload_n 0, 1) := by decide +kernel
theorem dX1_begin_62 : decode cX1_begin 62 = .ok (.getfield 24, 3) := by decide +kernel
theorem dX1_begin_65 : decode cX1_begin 65 = .ok (.aload_n 0, 1) := by decide +kernel
theorem dX1_begin_66 : decode cX1_begin 66 = .ok (.getfield 20, 3) := by decide +kernel
theorem dX1_begin_69 : decode cX1_begin 69 = .ok (.invokevirtual 77, 3) := by decide +kernel
theorem dX1_begin_72 : decode cX1_begin 72 = .ok (.iconst 0, 1) := by decide +kernel
theorem dX1_begin_73 : decode cX1_begin 73 = .ok (.istore 5, 2) := by decide +kernel
theorem dX1_begin_75 : decode cX1_begin 75 = .ok (.iload 5, 2) := by decide +kernel
theorem dX1_begin_77 : decode cX1_begin 77 = .ok (.bipush 14, 2) := by decide +kernel
theorem dX1_begin_79 : decode cX1_begin 79 = .ok (.if_icmp .ge 41, 3) := by decide +kernel
theorem dX1_begin_82 : decode cX1_begin 82 = .ok (.aload_n 0, 1) := by decide +kernel
theorem dX1_begin_83 : decode cX1_begin 83 = .ok (.getfield 27, 3) := by decide +kernel
theorem dX1_begin_86 : decode cX1_begin 86 = .ok (.iload 5, 2) := by decide +kernel
theorem dX1_begin_88 : decode cX1_begin 88 = .ok (.iconst (-1), 1) := by decide +kernel
theorem dX1_begin_89 : decode cX1_begin 89 = .ok (.iastore, 1) := by decide +kernel
theorem dX1_begin_90 : decode cX1_begin 90 = .ok (.aload_n 0, 1) := by decide +kernel
theorem dX1_begin_91 : decode cX1_begin 91 = .ok (.getfield 31, 3) := by decide +kernel
theorem dX1_begin_94 : decode cX1_begin 94 = .ok (.iload 5, 2) := by decide +kernel
theorem dX1_begin_96 : decode cX1_begin 96 = .ok (.iconst 0, 1) := by decide +kernel
theorem dX1_begin_97 : decode cX1_begin 97 = .ok (.iastore, 1) := by decide +kernel
theorem dX1_begin_98 : decode cX1_begin 98 = .ok (.aload_n 0, 1) := by decide +kernel
theorem dX1_begin_99 : decode cX1_begin 99 = .ok (.getfield 34, 3) := by decide +kernel
theorem dX1_begin_102 : decode cX1_begin 102 = .ok (.iload 5, 2) := by decide +kernel
theorem dX1_begin_104 : decode cX1_begin 104 = .ok (.iconst (-1), 1) := by decide +kernel
theorem dX1_begin_105 : decode cX1_begin 105 = .ok (.iastore, 1) := by decide +kernel
theorem dX1_begin_106 : decode cX1_begin 106 = .ok (.aload_n 0, 1) := by decide +kernel
theorem dX1_begin_107 : decode cX1_begin 107 = .ok (.getfield 37, 3) := by decide +kernel
theorem dX1_begin_110 : decode cX1_begin 110 = .ok (.iload 5, 2) := by decide +kernel
theorem dX1_begin_112 : decode cX1_begin 112 = .ok (.iconst 0, 1) := by decide +kernel
theorem dX1_begin_113 : decode cX1_begin 113 = .ok (.iastore, 1) := by decide +kernel
theorem dX1_begin_114 : decode cX1_begin 114 = .ok (.iinc 5 1, 3) := by decide +kernel
theorem dX1_begin_117 : decode cX1_begin 117 = .ok (.goto (-42), 3) := by decide +kernel
theorem dX1_begin_120 : decode cX1_begin 120 = .ok (.return_, 1) := by decide +kernel
theorem dX2_begin_0 : decode cX2_begin 0 = .ok (.aload_n 0, 1) := by decide +kernel
theorem dX2_begin_1 : decode cX2_begin 1 = .ok (.iload_n 2, 1) := by decide +kernel
theorem dX2_begin_2 : decode cX2_begin 2 = .ok (.ifCond .eq 7, 3) := by decide +kernel
theorem dX2_begin_5 : decode cX2_begin 5 = .ok (.iconst 1, 1) := by decide +kernel
theorem dX2_begin_6 : decode cX2_begin 6 = .ok (.goto 4, 3) := by decide +kernel
theorem dX2_begin_9 : decode cX2_begin 9 = .ok (.iconst 0, 1) := by decide +kernel
theorem dX2_begin_10 : decode cX2_begin 10 = .ok (.putfield 15, 3) := by decide +kernel
theorem dX2_begin_13 : decode cX2_begin 13 = .ok (.aload_n 0, 1) := by decide +kernel
theorem dX2_begin_14 : decode cX2_begin 14 = .ok (.iload_n 2, 1) := by decide +kernel
theorem dX2_begin_15 : decode cX2_begin 15 = .ok (.ifCond .eq 7, 3) := by decide +kernel
theorem dX2_begin_18 : decode cX2_begin 18 = .ok (.iconst (-1), 1) := by decide +kernel
theorem dX2_begin_19 : decode cX2_begin 19 = .ok (.goto 4, 3) := by decide +kernel
theorem dX2_begin_22 : decode cX2_begin 22 = .ok (.iload_n 1, 1) := by decide +kernel
theorem dX2_begin_23 : decode cX2_begin 23 = .ok (.putfield 19, 3) := by decide +kernel
theorem dX2_begin_26 : decode cX2_begin 26 = .ok (.aload_n 0, 1) := by decide +kernel
theorem dX2_begin_27 : decode cX2_begin 27 = .ok (.iconst (-1), 1) := by decide +kernel
theorem dX2_begin_28 : decode cX2_begin 28 = .ok (.putfield 22, 3) := by decide +kernel
theorem dX2_begin_31 : decode cX2_begin 31 = .ok (.aload_n 0, 1) := by decide +kernel
theorem dX2_begin_32 : decode cX2_begin 32 = .ok (.iconst 0, 1) := by decide +kernel
theorem dX2_begin_33 : decode cX2_begin 33 = .ok (.putfield 25, 3) := by decide +kernel
theorem dX2_begin_36 : decode cX2_begin 36 = .ok (.aload_n 0, 1) := by decide +kernel
theorem dX2_begin_37 : decode cX2_begin 37 = .ok (.iconst 0, 1) := by decide +kernel
theorem dX2_begin_38 : decode cX2_begin 38 = .ok (.putfield 28, 3) := by decide +kernel
theorem dX2_begin_41 : decode cX2_begin 41 = .ok (.aload_n 0, 1) := by decide +kernel
theorem dX2_begin_42 : decode cX2_begin 42 = .ok (.getfield 9, 3) := by decide +kernel
theorem dX2_begin_45 : decode cX2_begin 45 = .ok (.iconst 0, 1) := by decide +kernel
theorem dX2_begin_46 : decode cX2_begin 46 = .ok (.invokestatic 32, 3) := by decide +kernel
theorem dX2_begin_49 : decode cX2_begin 49 = .ok (.aload_n 0, 1) := by decide +kernel
theorem dX2_begin_50 : decode cX2_begin 50 = .ok (.iload_n 1, 1) := by decide +kernel
theorem dX2_begin_51 : decode cX2_begin 51 = .ok (.iconst 1, 1) := by decide +kernel
theorem dX2_begin_52 : decode cX2_begin 52 = .ok (.invokevirtual 38, 3) := by decide +kernel
theorem dX2_begin_55 : decode cX2_begin 55 = .ok (.return_, 1) := by decide +kernel
theorem dX2_copy_0 : decode cX2_copy 0 = .ok (.aload_n 0, 1) := by decide +kernel
theorem dX2_copy_1 : decode cX2_copy 1 = .ok (.aload_n 1, 1) := by decide +kernel
theorem dX2_copy_2 : decode cX2_copy 2 = .ok (.getfield 15, 3) := by decide +kernel
theorem dX2_copy_5 : decode cX2_copy 5 = .ok (.putfield 15, 3) := by decide +kernel
theorem dX2_copy_8 : decode cX2_copy 8 = .ok (.aload_n 0, 1) := by decide +kernel
theorem dX2_copy_9 : decode cX2_copy 9 = .ok (.aload_n 1, 1) := by decide +kernel
theorem dX2_copy_10 : decode cX2_copy 10 = .ok (.getfield 19, 3) := by decide +kernel
theorem dX2_copy_13 : decode cX2_copy 13 = .ok (.putfield 19, 3) := by decide +kernel
theorem dX2_copy_16 : decode cX2_copy 16 = .ok (.aload_n 0, 1) := by decide +kernel
theorem dX2_copy_17 : decode cX2_copy 17 = .ok (.aload_n 1, 1) := by decide +kernel
theorem dX2_copy_18 : decode cX2_copy 18 = .ok (.getfield 65, 3) := by decide +kernel
theorem dX2_copy_21 : decode cX2_copy 21 = .ok (.putfield 65, 3) := by decide +kernel
theorem dX2_copy_24 : decode cX2_copy 24 = .ok (.aload_n 0, 1) := by decide +kernel
theorem dX2_copy_25 : decode cX2_copy 25 = .ok (.aload_n 1, 1) := by decide +kernel
theorem dX2_copy_26 : decode cX2_copy 26 = .ok (.getfield 68, 3) := by decide +kernel
theorem dX2_copy_29 : decode cX2_copy 29 = .ok (.putfield 68, 3) := by decide +kernel
theorem dX2_copy_32 : decode cX2_copy 32 = .ok (.aload_n 0, 1) := by decide +kernel
theorem dX2_copy_33 : decode cX2_copy 33 = .ok (.aload_n 1, 1) := by decide +kernel
theorem dX2_copy_34 : decode cX2_copy 34 = .ok (.getfield 22, 3) := by decide +kernel
theorem dX2_copy_37 : decode cX2_copy 37 = .ok (.putfield 22, 3) := by decide +kernel
theorem dX2_copy_40 : decode cX2_copy 40 = .ok (.aload_n 0, 1) := by decide +kernel
theorem dX2_copy_41 : decode cX2_copy 41 = .ok (.aload_n 1, 1) := by decide +kernel
theorem dX2_copy_42 : decode cX2_copy 42 = .ok (.getfield 25, 3) := by decide +kernel
theorem dX2_copy_45 : decode cX2_copy 45 = .ok (.putfield 25, 3) := by decide +kernel
theorem dX2_copy_48 : decode cX2_copy 48 = .ok (.aload_n 0, 1) := by decide +kernel
theorem dX2_copy_49 : decode cX2_copy 49 = .ok (.aload_n 1, 1) := by decide +kernel
theorem dX2_copy_50 : decode cX2_copy 50 = .ok (.getfield 28, 3) := by decide +kernel
theorem dX2_copy_53 : decode cX2_copy 53 = .ok (.putfield 28, 3) := by decide +kernel
theorem dX2_copy_56 : decode cX2_copy 56 = .ok (.aload_n 1, 1) := by decide +kernel
theorem dX2_copy_57 : decode cX2_copy 57 = .ok (.getfield 9, 3) := by decide +kernel
theorem dX2_copy_60 : decode cX2_copy 60 = .ok (.iconst 0, 1) := by decide +kernel
theorem dX2_copy_61 : decode cX2_copy 61 = .ok (.aload_n 0, 1) := by decide +kernel
theorem dX2_copy_62 : decode cX2_copy 62 = .ok (.getfield 9, 3) := by decide +kernel
theorem dX2_copy_65 : decode cX2_copy 65 = .ok (.iconst 0, 1) := by decide +kernel
theorem dX2_copy_66 : decode cX2_copy 66 = .ok (.bipush 8, 2) := by decide +kernel
theorem dX2_copy_68 : decode cX2_copy 68 = .ok (.invokestatic 71, 3) := by decide +kernel
theorem dX2_copy_71 : decode cX2_copy 71 = .ok (.return_, 1) := by decide +kernel
theorem dX2_own_0 : decode cX2_own 0 = .ok (.aload_n 0, 1) := by decide +kernel
theorem dX2_own_1 : decode cX2_own 1 = .ok (.iload_n 1, 1) := by decide +kernel
theorem dX2_own_2 : decode cX2_own 2 = .ok (.putfield 65, 3) := by decide +kernel
theorem dX2_own_5 : decode cX2_own 5 = .ok (.aload_n 0, 1) := by decide +kernel
theorem dX2_own_6 : decode cX2_own 6 = .ok (.iload_n 2, 1) := by decide +kernel
theorem dX2_own_7 : decode cX2_own 7 = .ok (.putfield 68, 3) := by decide +kernel
theorem dX2_own_10 : decode cX2_own 10 = .ok (.aload_n 0, 1) := by decide +kernel
theorem dX2_own_11 : decode cX2_own 11 = .ok (.getfield 9, 3) := by decide +kernel
theorem dX2_own_14 : decode cX2_own 14 = .ok (.iload_n 1, 1) := by decide +kernel
theorem dX2_own_15 : decode cX2_own 15 = .ok (.iaload, 1) := by decide +kernel
theorem dX2_own_16 : decode cX2_own 16 = .ok (.ifCond .ne 10, 3) := by decide +kernel
theorem dX2_own_19 : decode cX2_own 19 = .ok (.aload_n 0, 1) := by decide +kernel
theorem dX2_own_20 : decode cX2_own 20 = .ok (.getfield 9, 3) := by decide +kernel
theorem dX2_own_23 : decode cX2_own 23 = .ok (.iload_n 1, 1) := by decide +kernel
theorem dX2_own_24 : decode cX2_own 24 = .ok (.iload_n 2, 1) := by decide +kernel
theorem dX2_own_25 : decode cX2_own 25 = .ok (.iastore, 1) := by decide +kernel
theorem dX2_own_26 : decode cX2_own 26 = .ok (.return_, 1) := by decide +kernel
theorem dX4_atEnd_0 : decode cX4_atEnd 0 = .ok (.aload_n 0, 1) := by decide +kernel
theorem dX4_atEnd_1 : decode cX4_atEnd 1 = .ok (.getfield 44, 3) := by decide +kernel
theorem dX4_atEnd_4 : decode cX4_atEnd 4 = .ok (.ifCond .ne 7, 3) := by decide +kernel
theorem dX4_atEnd_7 : decode cX4_atEnd 7 = .ok (.iconst 1, 1) := by decide +kernel
theorem dX4_atEnd_8 : decode cX4_atEnd 8 = .ok (.goto 4, 3) := by decide +kernel
theorem dX4_atEnd_12 : decode cX4_atEnd 12 = .ok (.ireturn, 1) := by decide +kernel
theorem dX4_faultPlace_0 : decode cX4_faultPlace 0 = .ok (.iconst 0, 1) := by decide +kernel
theorem dX4_faultPlace_1 : decode cX4_faultPlace 1 = .ok (.istore_n 1, 1) := by decide +kernel
theorem dX4_faultPlace_2 : decode cX4_faultPlace 2 = .ok (.iload_n 1, 1) := by decide +kernel
theorem dX4_faultPlace_3 : decode cX4_faultPlace 3 = .ok (.aload_n 0, 1) := by decide +kernel
theorem dX4_faultPlace_4 : decode cX4_faultPlace 4 = .ok (.getfield 34, 3) := by decide +kernel
theorem dX4_faultPlace_7 : decode cX4_faultPlace 7 = .ok (.if_icmp .gt 28, 3) := by decide +kernel
theorem dX4_faultPlace_10 : decode cX4_faultPlace 10 = .ok (.aload_n 0, 1) := by decide +kernel
theorem dX4_faultPlace_11 : decode cX4_faultPlace 11 = .ok (.getfield 44, 3) := by decide +kernel
theorem dX4_faultPlace_14 : decode cX4_faultPlace 14 = .ok (.ifCond .eq 21, 3) := by decide +kernel
theorem dX4_faultPlace_35 : decode cX4_faultPlace 35 = .ok (.iconst (-1), 1) := by decide +kernel
theorem dX4_faultPlace_36 : decode cX4_faultPlace 36 = .ok (.ireturn, 1) := by decide +kernel
theorem dX4_move_0 : decode cX4_move 0 = .ok (.aload_n 0, 1) := by decide +kernel
theorem dX4_move_1 : decode cX4_move 1 = .ok (.aload_n 0, 1) := by decide +kernel
theorem dX4_move_2 : decode cX4_move 2 = .ok (.getfield 38, 3) := by decide +kernel
theorem dX4_move_5 : decode cX4_move 5 = .ok (.putfield 51, 3) := by decide +kernel
theorem dX4_move_8 : decode cX4_move 8 = .ok (.aload_n 0, 1) := by decide +kernel
theorem dX4_move_9 : decode cX4_move 9 = .ok (.getfield 51, 3) := by decide +kernel
theorem dX4_move_12 : decode cX4_move 12 = .ok (.aload_n 0, 1) := by decide +kernel
theorem dX4_move_13 : decode cX4_move 13 = .ok (.getfield 34, 3) := by decide +kernel
theorem dX4_move_16 : decode cX4_move 16 = .ok (.if_icmp .ge 44, 3) := by decide +kernel
theorem dX4_move_60 : decode cX4_move 60 = .ok (.aload_n 0, 1) := by decide +kernel
theorem dX4_move_61 : decode cX4_move 61 = .ok (.aload_n 0, 1) := by decide +kernel
theorem dX4_move_62 : decode cX4_move 62 = .ok (.getfield 51, 3) := by decide +kernel
theorem dX4_move_65 : decode cX4_move 65 = .ok (.putfield 38, 3) := by decide +kernel
theorem dX4_move_68 : decode cX4_move 68 = .ok (.aload_n 0, 1) := by decide +kernel
theorem dX4_move_69 : decode cX4_move 69 = .ok (.getfield 51, 3) := by decide +kernel
theorem dX4_move_72 : decode cX4_move 72 = .ok (.aload_n 0, 1) := by decide +kernel
theorem dX4_move_73 : decode cX4_move 73 = .ok (.getfield 34, 3) := by decide +kernel
theorem dX4_move_76 : decode cX4_move 76 = .ok (.if_icmp .lt 11, 3) := by decide +kernel
theorem dX4_move_79 : decode cX4_move 79 = .ok (.aload_n 0, 1) := by decide +kernel
theorem dX4_move_80 : decode cX4_move 80 = .ok (.iconst 0, 1) := by decide +kernel
theorem dX4_move_81 : decode cX4_move 81 = .ok (.putfield 44, 3) := by decide +kernel
theorem dX4_move_84 : decode cX4_move 84 = .ok (.goto 72, 3) := by decide +kernel
theorem dX4_move_156 : decode cX4_move 156 = .ok (.return_, 1) := by decide +kernel
theorem dX4_open_0 : decode cX4_open 0 = .ok (.aload_n 0, 1) := by decide +kernel
theorem dX4_open_1 : decode cX4_open 1 = .ok (.aload_n 1, 1) := by decide +kernel
theorem dX4_open_2 : decode cX4_open 2 = .ok (.putfield 24, 3) := by decide +kernel
theorem dX4_open_5 : decode cX4_open 5 = .ok (.aload_n 0, 1) := by decide +kernel
theorem dX4_open_6 : decode cX4_open 6 = .ok (.iload_n 2, 1) := by decide +kernel
theorem dX4_open_7 : decode cX4_open 7 = .ok (.aload_n 1, 1) := by decide +kernel
theorem dX4_open_8 : decode cX4_open 8 = .ok (.arraylength, 1) := by decide +kernel
theorem dX4_open_9 : decode cX4_open 9 = .ok (.invokestatic 28, 3) := by decide +kernel
theorem dX4_open_12 : decode cX4_open 12 = .ok (.putfield 34, 3) := by decide +kernel
theorem dX4_open_15 : decode cX4_open 15 = .ok (.aload_n 0, 1) := by decide +kernel
theorem dX4_open_16 : decode cX4_open 16 = .ok (.iconst 0, 1) := by decide +kernel
theorem dX4_open_17 : decode cX4_open 17 = .ok (.putfield 38, 3) := by decide +kernel
theorem dX4_open_20 : decode cX4_open 20 = .ok (.aload_n 0, 1) := by decide +kernel
theorem dX4_open_21 : decode cX4_open 21 = .ok (.invokevirtual 41, 3) := by decide +kernel
theorem dX4_open_24 : decode cX4_open 24 = .ok (.return_, 1) := by decide +kernel
theorem dX9_text_0 : decode cX9_text 0 = .ok (.aload_n 0, 1) := by decide +kernel
theorem dX9_text_1 : decode cX9_text 1 = .ok (.getfield 12, 3) := by decide +kernel
theorem dX9_text_4 : decode cX9_text 4 = .ok (.getfield 45, 3) := by decide +kernel
theorem dX9_text_7 : decode cX9_text 7 = .ok (.istore_n 2, 1) := by decide +kernel
theorem dX9_text_8 : decode cX9_text 8 = .ok (.aload_n 0, 1) := by decide +kernel
theorem dX9_text_9 : decode cX9_text 9 = .ok (.getfield 12, 3) := by decide +kernel
theorem dX9_text_12 : decode cX9_text 12 = .ok (.iconst 0, 1) := by decide +kernel
theorem dX9_text_13 : decode cX9_text 13 = .ok (.putfield 45, 3) := by decide +kernel
theorem dX9_text_16 : decode cX9_text 16 = .ok (.iload_n 1, 1) := by decide +kernel
theorem dX9_text_17 : decode cX9_text 17 = .ok (.ifCond .eq 10, 3) := by decide +kernel
theorem dX9_text_20 : decode cX9_text 20 = .ok (.aload_n 0, 1) := by decide +kernel
theorem dX9_text_21 : decode cX9_text 21 = .ok (.getfield 12, 3) := by decide +kernel
theorem dX9_text_24 : decode cX9_text 24 = .ok (.invokevirtual 49, 3) := by decide +kernel
theorem dX9_text_27 : decode cX9_text 27 = .ok (.aload_n 0, 1) := by decide +kernel
theorem dX9_text_28 : decode cX9_text 28 = .ok (.getfield 23, 3) := by decide +kernel
theorem dX9_text_31 : decode cX9_text 31 = .ok (.aload_n 0, 1) := by decide +kernel
theorem dX9_text_32 : decode cX9_text 32 = .ok (.getfield 12, 3) := by decide +kernel
theorem dX9_text_35 : decode cX9_text 35 = .ok (.getfield 52, 3) := by decide +kernel
theorem dX9_text_38 : decode cX9_text 38 = .ok (.iload_n 2, 1) := by decide +kernel
theorem dX9_text_39 : decode cX9_text 39 = .ok (.invokevirtual 56, 3) := by decide +kernel
theorem dX9_text_42 : decode cX9_text 42 = .ok (.aload_n 0, 1) := by decide +kernel
theorem dX9_text_43 : decode cX9_text 43 = .ok (.getfield 12, 3) := by decide +kernel
theorem dX9_text_46 : decode cX9_text 46 = .ok (.aload_n 0, 1) := by decide +kernel
theorem dX9_text_47 : decode cX9_text 47 = .ok (.getfield 23, 3) := by decide +kernel
theorem dX9_text_50 : decode cX9_text 50 = .ok (.invokevirtual 60, 3) := by decide +kernel
theorem dX9_text_53 : decode cX9_text 53 = .ok (.putfield 64, 3) := by decide +kernel
theorem dX9_text_56 : decode cX9_text 56 = .ok (.aload_n 0, 1) := by decide +kernel
theorem dX9_text_57 : decode cX9_text 57 = .ok (.getfield 12, 3) := by decide +kernel
theorem dX9_text_60 : decode cX9_text 60 = .ok (.getfield 64, 3) := by decide +kernel
theorem dX9_text_63 : decode cX9_text 63 = .ok (.iconst (-1), 1) := by decide +kernel
theorem dX9_text_64 : decode cX9_text 64 = .ok (.if_icmp .eq 5, 3) := by decide +kernel
theorem dX9_text_69 : decode cX9_text 69 = .ok (.aload_n 0, 1) := by decide +kernel
theorem dX9_text_70 : decode cX9_text 70 = .ok (.getfield 23, 3) := by decide +kernel
theorem dX9_text_73 : decode cX9_text 73 = .ok (.aload_n 0, 1) := by decide +kernel
theorem dX9_text_74 : decode cX9_text 74 = .ok (.getfield 12, 3) := by decide +kernel
theorem dX9_text_77 : decode cX9_text 77 = .ok (.getfield 52, 3) := by decide +kernel
theorem dX9_text_80 : decode cX9_text 80 = .ok (.iload_n 2, 1) := by decide +kernel
theorem dX9_text_81 : decode cX9_text 81 = .ok (.invokevirtual 56, 3) := by decide +kernel
theorem dX9_text_84 : decode cX9_text 84 = .ok (.iconst 0, 1) := by decide +kernel
theorem dX9_text_85 : decode cX9_text 85 = .ok (.istore_n 3, 1) := by decide +kernel
theorem dX9_text_86 : decode cX9_text 86 = .ok (.iload_n 3, 1) := by decide +kernel
theorem dX9_text_87 : decode cX9_text 87 = .ok (.sipush 600, 3) := by decide +kernel
theorem dX9_text_90 : decode cX9_text 90 = .ok (.if_icmp .ge 43, 3) := by decide +kernel
theorem dX9_text_93 : decode cX9_text 93 = .ok (.aload_n 0, 1) := by decide +kernel
theorem dX9_text_94 : decode cX9_text 94 = .ok (.getfield 23, 3) := by decide +kernel
theorem dX9_text_97 : decode cX9_text 97 = .ok (.invokevirtual 66, 3) := by decide +kernel
theorem dX9_text_100 : decode cX9_text 100 = .ok (.ifCond .ne 33, 3) := by decide +kernel
theorem dX9_text_133 : decode cX9_text 133 = .ok (.iload_n 3, 1) := by decide +kernel
theorem dX9_text_134 : decode cX9_text 134 = .ok (.ireturn, 1) := by decide +kernel
end
section
theorem flX1_20 : FL RX1 20 0 13 (.object "BillRegistry$Chain") true := ⟨RX1, TX1, 19, tyX1, rfl, by decide, TB_t 189 (by decide +kernel) rfl, inX1, tyX1_ok, nmX1, rfl, rfl⟩
theorem flX1_24 : FL RX1 24 0 14 (.object "BillRegistry$Chain") true := ⟨RX1, TX1, 19, tyX1, rfl, by decide, TB_t 191 (by decide +kernel) rfl, inX1, tyX1_ok, nmX1, rfl, rfl⟩
theorem flX1_27 : FL RX1 27 0 15 (.array .int) true := ⟨RX1, TX1, 19, tyX1, rfl, by decide, TB_t 193 (by decide +kernel) rfl, inX1, tyX1_ok, nmX1, rfl, rfl⟩
theorem flX1_31 : FL RX1 31 0 16 (.array .int) true := ⟨RX1, TX1, 19, tyX1, rfl, by decide, TB_t 196 (by decide +kernel) rfl, inX1, tyX1_ok, nmX1, rfl, rfl⟩
theorem flX1_34 : FL RX1 34 0 17 (.array .int) true := ⟨RX1, TX1, 19, tyX1, rfl, by decide, TB_t 199 (by decide +kernel) rfl, inX1, tyX1_ok, nmX1, rfl, rfl⟩
theorem flX1_37 : FL RX1 37 0 18 (.array .int) true := ⟨RX1, TX1, 19, tyX1, rfl, by decide, TB_t 200 (by decide +kernel) rfl, inX1, tyX1_ok, nmX1, rfl, rfl⟩
theorem flX1_41 : FL RX1 41 0 0 .int false := ⟨RX1, TX1, 19, tyX1, rfl, by decide, TB_t 154 (by decide +kernel) rfl, inX1, tyX1_ok, nmX1, rfl, rfl⟩
theorem flX1_45 : FL RX1 45 0 1 .int false := ⟨RX1, TX1, 19, tyX1, rfl, by decide, TB_t 156 (by decide +kernel) rfl, inX1, tyX1_ok, nmX1, rfl, rfl⟩
theorem flX1_48 : FL RX1 48 0 2 .int false := ⟨RX1, TX1, 19, tyX1, rfl, by decide, TB_t 158 (by decide +kernel) rfl, inX1, tyX1_ok, nmX1, rfl, rfl⟩
theorem flX1_51 : FL RX1 51 0 9 .boolean false := ⟨RX1, TX1, 19, tyX1, rfl, by decide, TB_t 178 (by decide +kernel) rfl, inX1, tyX1_ok, nmX1, rfl, rfl⟩
theorem flX1_55 : FL RX1 55 0 5 .int false := ⟨RX1, TX1, 19, tyX1, rfl, by decide, TB_t 166 (by decide +kernel) rfl, inX1, tyX1_ok, nmX1, rfl, rfl⟩
theorem flX1_58 : FL RX1 58 0 6 .int false := ⟨RX1, TX1, 19, tyX1, rfl, by decide, TB_t 170 (by decide +kernel) rfl, inX1, tyX1_ok, nmX1, rfl, rfl⟩
theorem flX1_61 : FL RX1 61 0 7 .int false := ⟨RX1, TX1, 19, tyX1, rfl, by decide, TB_t 173 (by decide +kernel) rfl, inX1, tyX1_ok, nmX1, rfl, rfl⟩
theorem flX1_64 : FL RX1 64 0 8 .int false := ⟨RX1, TX1, 19, tyX1, rfl, by decide, TB_t 177 (by decide +kernel) rfl, inX1, tyX1_ok, nmX1, rfl, rfl⟩
theorem flX1_67 : FL RX1 67 0 10 .boolean false := ⟨RX1, TX1, 19, tyX1, rfl, by decide, TB_t 180 (by decide +kernel) rfl, inX1, tyX1_ok, nmX1, rfl, rfl⟩
theorem flX1_70 : FL RX1 70 0 11 .boolean false := ⟨RX1, TX1, 19, tyX1, rfl, by decide, TB_t 183 (by decide +kernel) rfl, inX1, tyX1_ok, nmX1, rfl, rfl⟩
theorem flX2_15 : FL RX2 15 1 0 .int false := ⟨RX2, TX2, 8, tyX2, rfl, by decide, TB_t 49 (by decide +kernel) rfl, inX2, tyX2_ok, nmX2, rfl, rfl⟩
theorem flX2_19 : FL RX2 19 1 1 .int false := ⟨RX2, TX2, 8, tyX2, rfl, by decide, TB_t 51 (by decide +kernel) rfl, inX2, tyX2_ok, nmX2, rfl, rfl⟩
theorem flX2_22 : FL RX2 22 1 4 .int false := ⟨RX2, TX2, 8, tyX2, rfl, by decide, TB_t 59 (by decide +kernel) rfl, inX2, tyX2_ok, nmX2, rfl, rfl⟩
theorem flX2_25 : FL RX2 25 1 5 .int false := ⟨RX2, TX2, 8, tyX2, rfl, by decide, TB_t 63 (by decide +kernel) rfl, inX2, tyX2_ok, nmX2, rfl, rfl⟩
theorem flX2_28 : FL RX2 28 1 6 .boolean false := ⟨RX2, TX2, 8, tyX2, rfl, by decide, TB_t 65 (by decide +kernel) rfl, inX2, tyX2_ok, nmX2, rfl, rfl⟩
theorem flX2_65 : FL RX2 65 1 2 .int false := ⟨RX2, TX2, 8, tyX2, rfl, by decide, TB_t 53 (by decide +kernel) rfl, inX2, tyX2_ok, nmX2, rfl, rfl⟩
theorem flX2_68 : FL RX2 68 1 3 .int false := ⟨RX2, TX2, 8, tyX2, rfl, by decide, TB_t 56 (by decide +kernel) rfl, inX2, tyX2_ok, nmX2, rfl, rfl⟩
theorem flX2_9 : FL RX2 9 1 7 (.array .int) true := ⟨RX2, TX2, 8, tyX2, rfl, by decide, TB_t 67 (by decide +kernel) rfl, inX2, tyX2_ok, nmX2, rfl, rfl⟩
theorem flX4_24 : FL RX4 24 3 4 (.array .byte) false := ⟨RX4, TX4, 10, tyX4, rfl, by decide, TB_t 308 (by decide +kernel) rfl, inX4, tyX4_ok, nmX4, rfl, rfl⟩
theorem flX4_34 : FL RX4 34 3 5 .int false := ⟨RX4, TX4, 10, tyX4, rfl, by decide, TB_t 309 (by decide +kernel) rfl, inX4, tyX4_ok, nmX4, rfl, rfl⟩
theorem flX4_38 : FL RX4 38 3 8 .int false := ⟨RX4, TX4, 10, tyX4, rfl, by decide, TB_t 312 (by decide +kernel) rfl, inX4, tyX4_ok, nmX4, rfl, rfl⟩
theorem flX4_44 : FL RX4 44 3 6 .int false := ⟨RX4, TX4, 10, tyX4, rfl, by decide, TB_t 310 (by decide +kernel) rfl, inX4, tyX4_ok, nmX4, rfl, rfl⟩
theorem flX4_51 : FL RX4 51 3 7 .int false := ⟨RX4, TX4, 10, tyX4, rfl, by decide, TB_t 311 (by decide +kernel) rfl, inX4, tyX4_ok, nmX4, rfl, rfl⟩
theorem flX9_23 : FL RX9 23 7 2 (.object "BillRegistry$Reader") true := ⟨RX9, TX9, 5, tyX9, rfl, by decide, TB_t 375 (by decide +kernel) rfl, inX9, tyX9_ok, nmX9, rfl, rfl⟩
theorem flX9_52 : FL RX9 52 6 10 (.array .byte) true := ⟨RX8, TX8, 11, tyX8, rfl, by decide, TB_t 267 (by decide +kernel) rfl, inX8, tyX8_ok, nmX8, rfl, rfl⟩
theorem mlX1_73 : MLV RX1 73 yX2_begin cX2_begin 3 none 2 := ⟨TB_t 545 (by decide +kernel) rfl, TB_t 548 (by decide +kernel) rfl, TB_t 4 (by decide +kernel) rfl, ⟨by decide, by decide, by decide +kernel⟩, TB_t 546 (by decide +kernel) rfl, TB_t 547 (by decide +kernel) rfl⟩
theorem mlX1_77 : MLV RX1 77 yX2_copy cX2_copy 2 none 1 := ⟨TB_t 556 (by decide +kernel) rfl, TB_t 559 (by decide +kernel) rfl, TB_t 4 (by decide +kernel) rfl, ⟨by decide, by decide, by decide +kernel⟩, TB_t 557 (by decide +kernel) rfl, TB_t 558 (by decide +kernel) rfl⟩
theorem mlX2_32 : MLS RX2 32 yJ7_fill_53178 cJ7_fill_53178 4 none 2 := ⟨TB_t 549 (by decide +kernel) rfl, TB_t 551 (by decide +kernel) rfl, TB_t 18 (by decide +kernel) rfl, ⟨by decide, by decide, by decide +kernel⟩, TB_t 550 (by decide +kernel) rfl⟩
theorem mlX2_38 : MLV RX2 38 yX2_own cX2_own 3 none 2 := ⟨TB_t 552 (by decide +kernel) rfl, TB_t 555 (by decide +kernel) rfl, TB_t 4 (by decide +kernel) rfl, ⟨by decide, by decide, by decide +kernel⟩, TB_t 554 (by decide +kernel) rfl, TB_s 9 (by decide +kernel) rfl⟩
theorem mlX4_41 : MLV RX4 41 yX4_move cX4_move 1 none 0 := ⟨TB_t 417 (by decide +kernel) rfl, TB_t 420 (by decide +kernel) rfl, TB_t 6 (by decide +kernel) rfl, ⟨by decide, by decide, by decide +kernel⟩, TB_t 419 (by decide +kernel) rfl, TB_s 1 (by decide +kernel) rfl⟩
theorem mlX9_49 : MLV RX9 49 yX8_begin cX8_begin 2 none 0 := ⟨TB_t 409 (by decide +kernel) rfl, TB_t 245 (by decide +kernel) rfl, TB_t 2 (by decide +kernel) rfl, ⟨by decide, by decide, by decide +kernel⟩, TB_t 243 (by decide +kernel) rfl, TB_t 244 (by decide +kernel) rfl⟩
theorem mlX9_56 : MLV RX9 56 yX4_open cX4_open 3 none 2 := ⟨TB_t 410 (by decide +kernel) rfl, TB_t 413 (by decide +kernel) rfl, TB_t 6 (by decide +kernel) rfl, ⟨by decide, by decide, by decide +kernel⟩, TB_t 411 (by decide +kernel) rfl, TB_t 412 (by decide +kernel) rfl⟩
theorem mlX9_60 : MLV RX9 60 yX4_faultPlace cX4_faultPlace 2 (some .int) 0 := ⟨TB_t 437 (by decide +kernel) rfl, TB_t 440 (by decide +kernel) rfl, TB_t 6 (by decide +kernel) rfl, ⟨by decide, by decide, by decide +kernel⟩, TB_t 438 (by decide +kernel) rfl, TB_t 439 (by decide +kernel) rfl⟩
theorem mlX9_66 : MLV RX9 66 yX4_atEnd cX4_atEnd 1 (some .boolean) 0 := ⟨TB_t 505 (by decide +kernel) rfl, TB_t 508 (by decide +kernel) rfl, TB_t 6 (by decide +kernel) rfl, ⟨by decide, by decide, by decide +kernel⟩, TB_t 506 (by decide +kernel) rfl, TB_t 507 (by decide +kernel) rfl⟩
end
section
theorem mmX4_28 : MML RX4 28 := ⟨TB_t 414 (by decide +kernel) rfl, TB_t 415 (by decide +kernel) rfl, TB_t 12 (by decide +kernel) rfl, TB_t 416 (by decide +kernel) rfl⟩
theorem cpX2_71 : CPL RX2 71 := ⟨TB_t 560 (by decide +kernel) rfl, TB_t 562 (by decide +kernel) rfl, TB_t 561 (by decide +kernel) rfl, TB_t 19 (by decide +kernel) rfl⟩
set_option maxHeartbeats 4000000 in
set_option maxRecDepth 100000 in
theorem c_X4_move {l : Launch} {D : va_G} {kA : Nat → ClassId} {M : mM} {T : mT} {sz : Nat} {rd nb vb by_ : Nat} {no wi ki pl va : Int32} (hc_rd : M rd = some (.inr (3, [.ref nb, .ref vb, .int no, .int wi, .ref by_, .int 0, .int ki, .int pl, .int 0, .int va]))) : mCv l yX4_move cX4_move 1 0 0 0 D kA M T sz [.ref rd] (fun u => (u.1 rd = some (.inr (3, [.ref nb, .ref vb, .int no, .int wi, .ref by_, .int 0, .int 0, .int 0, .int 0, .int va]))) ∧ u.2 = T ∧ (∀ q, q ≠ rd → u.1 q = M q)) := by
  unfold mCv
  refine start_W (by decide) (Nat.le_of_ble_eq_true rfl) ?_
  intro p e s m below meth c ls hC hr hlk hnm hK hH hsz hl
  have hx := hC.1
  have hb := hC.2.1
  have hl : lv_has ls 1 [(0, .ref rd)] := hl
  have hF : ∀ q, q ≠ rd → M q = M q := fun q _ => rfl
  refine lv_aload_n hx hb dX4_move_0 rfl (lv_at hl 0 rfl) ?_
  refine lv_aload_n hx hb dX4_move_1 rfl (lv_at hl 0 rfl) ?_
  refine xg hC hK hH flX4_38 hc_rd rfl dX4_move_2 ?_
  refine yp (v := .int 0) hC hK hH flX4_51 hc_rd rfl rfl (Nat.le_of_ble_eq_true rfl) dX4_move_5 (fun H locs M1 hc_rd hfr hH => ?_)
  have hc_rd : M1 rd = some (.inr (3, [.ref nb, .ref vb, .int no, .int wi, .ref by_, .int 0, .int ki, .int 0, .int 0, .int va])) := hc_rd
  have hF : ∀ q, q ≠ rd → M1 q = M q := fun q h0 => (hfr q h0).trans (hF q h0)
  refine lv_aload_n hx hb dX4_move_8 rfl (lv_at hl 0 rfl) ?_
  refine xg hC hK hH flX4_51 hc_rd rfl dX4_move_9 ?_
  refine lv_aload_n hx hb dX4_move_12 rfl (lv_at hl 0 rfl) ?_
  refine xg hC hK hH flX4_34 hc_rd rfl dX4_move_13 ?_
  refine jic_ge (tgt := 60) hx hb dX4_move_16 (by decide) (fun c2 => ?_) (fun c2 => absurd c2 (by decide))
  refine lv_aload_n hx hb dX4_move_60 rfl (lv_at hl 0 rfl) ?_
  refine lv_aload_n hx hb dX4_move_61 rfl (lv_at hl 0 rfl) ?_
  refine xg hC hK hH flX4_51 hc_rd rfl dX4_move_62 ?_
  refine yp (v := .int 0) hC hK hH flX4_38 hc_rd rfl rfl (Nat.le_of_ble_eq_true rfl) dX4_move_65 (fun H locs M3 hc_rd hfr hH => ?_)
  have hc_rd : M3 rd = some (.inr (3, [.ref nb, .ref vb, .int no, .int wi, .ref by_, .int 0, .int ki, .int 0, .int 0, .int va])) := hc_rd
  have hF : ∀ q, q ≠ rd → M3 q = M q := fun q h0 => (hfr q h0).trans (hF q h0)
  refine lv_aload_n hx hb dX4_move_68 rfl (lv_at hl 0 rfl) ?_
  refine xg hC hK hH flX4_51 hc_rd rfl dX4_move_69 ?_
  refine lv_aload_n hx hb dX4_move_72 rfl (lv_at hl 0 rfl) ?_
  refine xg hC hK hH flX4_34 hc_rd rfl dX4_move_73 ?_
  refine jic_lt (tgt := 87) hx hb dX4_move_76 (by decide) (fun c4 => absurd c4 (by decide)) (fun c4 => ?_)
  refine lv_aload_n hx hb dX4_move_79 rfl (lv_at hl 0 rfl) ?_
  refine lv_iconst (v := 0) hx hb dX4_move_80 (by decide) ?_
  refine yp (v := .int 0) hC hK hH flX4_44 hc_rd rfl rfl (Nat.le_of_ble_eq_true rfl) dX4_move_81 (fun H locs M5 hc_rd hfr hH => ?_)
  have hc_rd : M5 rd = some (.inr (3, [.ref nb, .ref vb, .int no, .int wi, .ref by_, .int 0, .int 0, .int 0, .int 0, .int va])) := hc_rd
  have hF : ∀ q, q ≠ rd → M5 q = M q := fun q h0 => (hfr q h0).trans (hF q h0)
  refine lv_goto (tgt := 156) hx hb dX4_move_84 (by decide) ?_
  exact ret_v hC hr hlk hK hH (⟨hc_rd, rfl, hF⟩) (Nat.le_of_ble_eq_true rfl) (Nat.le_of_ble_eq_true rfl) dX4_move_156
set_option maxHeartbeats 4000000 in
set_option maxRecDepth 100000 in
theorem c_X4_open {l : Launch} {D : va_G} {kA : Nat → ClassId} {M : mM} {T : mT} {sz : Nat} {rd nb vb by_ : Nat} {no wi le ki pl be va : Int32} {tp : Nat} (hc_rd : M rd = some (.inr (3, [.ref nb, .ref vb, .int no, .int wi, .ref by_, .int le, .int ki, .int pl, .int be, .int va]))) (ht_tp : T tp = some 7) : mCv l yX4_open cX4_open 3 1 0 0 D kA M T sz [.ref rd, .ref tp, .int 0] (fun u => (u.1 rd = some (.inr (3, [.ref nb, .ref vb, .int no, .int wi, .ref tp, .int 0, .int 0, .int 0, .int 0, .int va]))) ∧ u.2 = T ∧ (∀ q, q ≠ rd → u.1 q = M q)) := by
  unfold mCv
  refine start_W (by decide) (Nat.le_of_ble_eq_true rfl) ?_
  intro p e s m below meth c ls hC hr hlk hnm hK hH hsz hl
  have hx := hC.1
  have hb := hC.2.1
  have hl : lv_has ls 3 [(0, .ref rd), (1, .ref tp), (2, .int 0)] := hl
  have hF : ∀ q, q ≠ rd → M q = M q := fun q _ => rfl
  refine lv_aload_n hx hb dX4_open_0 rfl (lv_at hl 0 rfl) ?_
  refine lv_aload_n hx hb dX4_open_1 rfl (lv_at hl 1 rfl) ?_
  refine yp (v := .ref tp) hC hK hH flX4_24 hc_rd rfl rfl (Nat.le_of_ble_eq_true rfl) dX4_open_2 (fun H locs M1 hc_rd hfr hH => ?_)
  have hc_rd : M1 rd = some (.inr (3, [.ref nb, .ref vb, .int no, .int wi, .ref tp, .int le, .int ki, .int pl, .int be, .int va])) := hc_rd
  have hF : ∀ q, q ≠ rd → M1 q = M q := fun q h0 => (hfr q h0).trans (hF q h0)
  refine lv_aload_n hx hb dX4_open_5 rfl (lv_at hl 0 rfl) ?_
  refine lv_iload_n hx hb dX4_open_6 rfl (lv_at hl 2 rfl) ?_
  refine lv_aload_n hx hb dX4_open_7 rfl (lv_at hl 1 rfl) ?_
  refine tlen (v := 600) hC hK hH ht_tp rfl rfl rfl dX4_open_8 ?_
  refine xmin hC hl.1 mmX4_28 (Nat.le_of_ble_eq_true rfl) (Nat.le_of_ble_eq_true rfl) (Nat.le_of_ble_eq_true rfl) (Nat.le_of_ble_eq_true rfl) dX4_open_9 ?_
  refine lv_cst (v := 0) (by decide) ?_
  refine yp (v := .int 0) hC hK hH flX4_34 hc_rd rfl rfl (Nat.le_of_ble_eq_true rfl) dX4_open_12 (fun H locs M2 hc_rd hfr hH => ?_)
  have hc_rd : M2 rd = some (.inr (3, [.ref nb, .ref vb, .int no, .int wi, .ref tp, .int 0, .int ki, .int pl, .int be, .int va])) := hc_rd
  have hF : ∀ q, q ≠ rd → M2 q = M q := fun q h0 => (hfr q h0).trans (hF q h0)
  refine lv_aload_n hx hb dX4_open_15 rfl (lv_at hl 0 rfl) ?_
  refine lv_iconst (v := 0) hx hb dX4_open_16 (by decide) ?_
  refine yp (v := .int 0) hC hK hH flX4_38 hc_rd rfl rfl (Nat.le_of_ble_eq_true rfl) dX4_open_17 (fun H locs M3 hc_rd hfr hH => ?_)
  have hc_rd : M3 rd = some (.inr (3, [.ref nb, .ref vb, .int no, .int wi, .ref tp, .int 0, .int ki, .int pl, .int 0, .int va])) := hc_rd
  have hF : ∀ q, q ≠ rd → M3 q = M q := fun q h0 => (hfr q h0).trans (hF q h0)
  refine lv_aload_n hx hb dX4_open_20 rfl (lv_at hl 0 rfl) ?_
  refine goV hK hH (runV (As := []) (rest := []) hC hK hH (c_X4_move hc_rd) mlX4_41 (rcvM hK hH hc_rd rfl) ⟨⟨Nat.le_of_ble_eq_true rfl, Nat.le_of_ble_eq_true rfl⟩, Nat.le_of_ble_eq_true rfl, Nat.le_of_ble_eq_true rfl⟩ rfl hl.1 rfl (Nat.le_of_ble_eq_true rfl) dX4_open_21) (fun M4 T5 H locs hP hz hH => ?_)
  try dsimp only at hP
  obtain ⟨(hx_rd), eT, hfr⟩ := hP
  have eT := eT.symm; subst eT
  have hc_rd : M4 rd = some (.inr (3, [.ref nb, .ref vb, .int no, .int wi, .ref tp, .int 0, .int 0, .int 0, .int 0, .int va])) := hx_rd
  have hF : ∀ q, q ≠ rd → M4 q = M q := fun q h0 => (hfr q h0).trans (hF q h0)
  exact ret_v hC hr hlk hK hH (⟨hc_rd, rfl, hF⟩) (Nat.le_of_ble_eq_true rfl) (Nat.le_of_ble_eq_true rfl) dX4_open_24
set_option maxHeartbeats 4000000 in
set_option maxRecDepth 100000 in
theorem c_X4_atEnd {l : Launch} {D : va_G} {kA : Nat → ClassId} {M : mM} {T : mT} {sz : Nat} {rd nb vb by_ : Nat} {no wi le pl be va : Int32} (hc_rd : M rd = some (.inr (3, [.ref nb, .ref vb, .int no, .int wi, .ref by_, .int le, .int 0, .int pl, .int be, .int va]))) : mCi l yX4_atEnd cX4_atEnd 1 (some .boolean) 0 0 0 D kA M T sz [.ref rd] (fun r u => (r = 1) ∧ u.2 = T ∧ u.1 = M) := by
  unfold mCi
  refine start_W (by decide) (Nat.le_of_ble_eq_true rfl) ?_
  intro p e s m below meth c ls hC hr hlk hnm hK hH hsz hl
  have hx := hC.1
  have hb := hC.2.1
  have hl : lv_has ls 1 [(0, .ref rd)] := hl
  refine lv_aload_n hx hb dX4_atEnd_0 rfl (lv_at hl 0 rfl) ?_
  refine xg hC hK hH flX4_44 hc_rd rfl dX4_atEnd_1 ?_
  refine jif_ne (tgt := 11) hx hb dX4_atEnd_4 (by decide) (fun c1 => absurd c1 (by decide)) (fun c1 => ?_)
  refine lv_iconst (v := 1) hx hb dX4_atEnd_7 (by decide) ?_
  refine lv_goto (tgt := 12) hx hb dX4_atEnd_8 (by decide) ?_
  exact ret_z hC hr hlk hK hH (by first | exact Or.inl rfl | exact Or.inr rfl | assumption) (⟨rfl, rfl, rfl⟩) (Nat.le_of_ble_eq_true rfl) (Nat.le_of_ble_eq_true rfl) dX4_atEnd_12
set_option maxHeartbeats 4000000 in
set_option maxRecDepth 100000 in
theorem c_X4_faultPlace {l : Launch} {D : va_G} {kA : Nat → ClassId} {M : mM} {T : mT} {sz : Nat} {rd nb vb by_ : Nat} {no wi pl be va : Int32} (hc_rd : M rd = some (.inr (3, [.ref nb, .ref vb, .int no, .int wi, .ref by_, .int 0, .int 0, .int pl, .int be, .int va]))) : mCi l yX4_faultPlace cX4_faultPlace 2 (some .int) 0 0 0 D kA M T sz [.ref rd] (fun r u => (r = -1) ∧ u.2 = T ∧ u.1 = M) := by
  unfold mCi
  refine start_W (by decide) (Nat.le_of_ble_eq_true rfl) ?_
  intro p e s m below meth c ls hC hr hlk hnm hK hH hsz hl
  have hx := hC.1
  have hb := hC.2.1
  have hl : lv_has ls 2 [(0, .ref rd)] := hl
  refine lv_iconst (v := 0) hx hb dX4_faultPlace_0 (by decide) ?_
  refine lv_istore_n (lv' := [(1, .int 0), (0, .ref rd)]) hx hb dX4_faultPlace_1 rfl hl (by decide) rfl (fun ls hl => ?_)
  refine lv_iload_n hx hb dX4_faultPlace_2 rfl (lv_at hl 0 rfl) ?_
  refine lv_aload_n hx hb dX4_faultPlace_3 rfl (lv_at hl 1 rfl) ?_
  refine xg hC hK hH flX4_34 hc_rd rfl dX4_faultPlace_4 ?_
  refine jic_gt (tgt := 35) hx hb dX4_faultPlace_7 (by decide) (fun c1 => absurd c1 (by decide)) (fun c1 => ?_)
  refine lv_aload_n hx hb dX4_faultPlace_10 rfl (lv_at hl 1 rfl) ?_
  refine xg hC hK hH flX4_44 hc_rd rfl dX4_faultPlace_11 ?_
  refine jif_eq (tgt := 35) hx hb dX4_faultPlace_14 (by decide) (fun c2 => ?_) (fun c2 => absurd c2 (by decide))
  refine lv_iconst (v := -1) hx hb dX4_faultPlace_35 (by decide) ?_
  exact ret_i hC hr hlk hK hH (⟨rfl, rfl, rfl⟩) (Nat.le_of_ble_eq_true rfl) (Nat.le_of_ble_eq_true rfl) dX4_faultPlace_36
set_option maxHeartbeats 4000000 in
set_option maxRecDepth 100000 in
theorem c_X9_text {l : Launch} {D : va_G} {kA : Nat → ClassId} {M : mM} {T : mT} {sz : Nat} {ro im rc cu : Nat}{w cs bs tp : Nat}{rd nb vb by_ : Nat} {no wi le ki pl be va : Int32} {an : Int32} {f : Nat → Int32} (hc_ro : M ro = some (.inr (7, [.ref w, .ref im, .ref rd, .ref rc, .ref cu]))) (hc_w : M w = some (.inr (6, [.int 0, .int 2, .int 0, .int 0, .int 0, .int 0, .int 0, .int (-1), .ref cs, .ref bs, .ref tp]))) (hc_cs : M cs = some (.inl (kA 0, 8, .inl (c100 f)))) (hc_rd : M rd = some (.inr (3, [.ref nb, .ref vb, .int no, .int wi, .ref by_, .int le, .int ki, .int pl, .int be, .int va]))) (ht_tp : T tp = some 7) : mCi l yX9_text cX9_text 4 (some .int) 2 0 0 D kA M T sz [.ref ro, .int an] (fun r u => (r = 0) ∧ u.2 = T ∧ (∀ q, q ≠ w → q ≠ cs → q ≠ rd → u.1 q = M q)) := by
  unfold mCi
  refine start_W (by decide) (Nat.le_of_ble_eq_true rfl) ?_
  intro p e s m below meth c ls hC hr hlk hnm hK hH hsz hl
  have hx := hC.1
  have hb := hC.2.1
  have hl : lv_has ls 4 [(0, .ref ro), (1, .int an)] := hl
  have hF : ∀ q, q ≠ w → q ≠ cs → q ≠ rd → M q = M q := fun q _ _ _ => rfl
  have n_ro_w : ro ≠ w := neM hc_ro hc_w (by simp)
  have n_ro_cs : ro ≠ cs := neM hc_ro hc_cs (by simp)
  have n_ro_rd : ro ≠ rd := neM hc_ro hc_rd (by simp)
  have n_w_ro : w ≠ ro := neM hc_w hc_ro (by simp)
  have n_w_cs : w ≠ cs := neM hc_w hc_cs (by simp)
  have n_w_rd : w ≠ rd := neM hc_w hc_rd (by simp)
  have n_cs_ro : cs ≠ ro := neM hc_cs hc_ro (by simp)
  have n_cs_w : cs ≠ w := neM hc_cs hc_w (by simp)
  have n_cs_rd : cs ≠ rd := neM hc_cs hc_rd (by simp)
  have n_rd_ro : rd ≠ ro := neM hc_rd hc_ro (by simp)
  have n_rd_w : rd ≠ w := neM hc_rd hc_w (by simp)
  have n_rd_cs : rd ≠ cs := neM hc_rd hc_cs (by simp)
  refine lv_aload_n hx hb dX9_text_0 rfl (lv_at hl 0 rfl) ?_
  refine xg hC hK hH flX9_12 hc_ro rfl dX9_text_1 ?_
  refine xg hC hK hH flX9_45 hc_w rfl dX9_text_4 ?_
  refine lv_istore_n (lv' := [(2, .int 0), (0, .ref ro), (1, .int an)]) hx hb dX9_text_7 rfl hl (by decide) rfl (fun ls hl => ?_)
  refine lv_aload_n hx hb dX9_text_8 rfl (lv_at hl 1 rfl) ?_
  refine xg hC hK hH flX9_12 hc_ro rfl dX9_text_9 ?_
  refine lv_iconst (v := 0) hx hb dX9_text_12 (by decide) ?_
  refine yp (v := .int 0) hC hK hH flX9_45 hc_w rfl rfl (Nat.le_of_ble_eq_true rfl) dX9_text_13 (fun H locs M1 hc_w hfr hH => ?_)
  have hc_w : M1 w = some (.inr (6, [.int 0, .int 2, .int 0, .int 0, .int 0, .int 0, .int 0, .int (-1), .ref cs, .ref bs, .ref tp])) := hc_w
  have hc_ro : M1 ro = some (.inr (7, [.ref w, .ref im, .ref rd, .ref rc, .ref cu])) := (hfr ro n_ro_w).trans hc_ro
  have hc_cs : M1 cs = some (.inl (kA 0, 8, .inl (c100 f))) := (hfr cs n_cs_w).trans hc_cs
  have hc_rd : M1 rd = some (.inr (3, [.ref nb, .ref vb, .int no, .int wi, .ref by_, .int le, .int ki, .int pl, .int be, .int va])) := (hfr rd n_rd_w).trans hc_rd
  have hF : ∀ q, q ≠ w → q ≠ cs → q ≠ rd → M1 q = M q := fun q h0 h1 h2 => (hfr q h0).trans (hF q h0 h1 h2)
  refine lv_iload_n hx hb dX9_text_16 rfl (lv_at hl 2 rfl) ?_
  refine jif_eq (tgt := 27) hx hb dX9_text_17 (by decide) (fun c2 => ?_) (fun c2 => ?_)
  · skip
    have c2 : an.toInt = 0 := c2
    refine lv_aload_n hx hb dX9_text_27 rfl (lv_at hl 1 rfl) ?_
    refine xg hC hK hH flX9_23 hc_ro rfl dX9_text_28 ?_
    refine lv_aload_n hx hb dX9_text_31 rfl (lv_at hl 1 rfl) ?_
    refine xg hC hK hH flX9_12 hc_ro rfl dX9_text_32 ?_
    refine xg hC hK hH flX9_52 hc_w rfl dX9_text_35 ?_
    refine lv_iload_n hx hb dX9_text_38 rfl (lv_at hl 0 rfl) ?_
    refine goV hK hH (runV (As := [.ref tp, .int 0]) (rest := []) hC hK hH (c_X4_open hc_rd ht_tp) mlX9_56 (rcvM hK hH hc_rd rfl) ⟨⟨Nat.le_of_ble_eq_true rfl, Nat.le_of_ble_eq_true rfl⟩, Nat.le_of_ble_eq_true rfl, Nat.le_of_ble_eq_true rfl⟩ rfl hl.1 rfl (Nat.le_of_ble_eq_true rfl) dX9_text_39) (fun M3 T4 H locs hP hz hH => ?_)
    try dsimp only at hP
    obtain ⟨(hx_rd), eT, hfr⟩ := hP
    have eT := eT.symm; subst eT
    have hc_ro : M3 ro = some (.inr (7, [.ref w, .ref im, .ref rd, .ref rc, .ref cu])) := (hfr ro n_ro_rd).trans hc_ro
    have hc_w : M3 w = some (.inr (6, [.int 0, .int 2, .int 0, .int 0, .int 0, .int 0, .int 0, .int (-1), .ref cs, .ref bs, .ref tp])) := (hfr w n_w_rd).trans hc_w
    have hc_cs : M3 cs = some (.inl (kA 0, 8, .inl (c100 f))) := (hfr cs n_cs_rd).trans hc_cs
    have hc_rd : M3 rd = some (.inr (3, [.ref nb, .ref vb, .int no, .int wi, .ref tp, .int 0, .int 0, .int 0, .int 0, .int va])) := hx_rd
    have hF : ∀ q, q ≠ w → q ≠ cs → q ≠ rd → M3 q = M q := fun q h0 h1 h2 => (hfr q h2).trans (hF q h0 h1 h2)
    refine lv_aload_n hx hb dX9_text_42 rfl (lv_at hl 1 rfl) ?_
    refine xg hC hK hH flX9_12 hc_ro rfl dX9_text_43 ?_
    refine lv_aload_n hx hb dX9_text_46 rfl (lv_at hl 1 rfl) ?_
    refine xg hC hK hH flX9_23 hc_ro rfl dX9_text_47 ?_
    refine goI hK hH (runV (As := []) (rest := [.ref w]) hC hK hH (c_X4_faultPlace hc_rd) mlX9_60 (rcvM hK hH hc_rd rfl) ⟨⟨Nat.le_of_ble_eq_true rfl, Nat.le_of_ble_eq_true rfl⟩, Nat.le_of_ble_eq_true rfl, Nat.le_of_ble_eq_true rfl⟩ rfl hl.1 rfl (Nat.le_of_ble_eq_true rfl) dX9_text_50) (fun r8 M6 T7 H locs hP hz hH => ?_)
    try dsimp only at hP
    obtain ⟨(rfl), eT, eM⟩ := hP
    have eT := eT.symm; subst eT
    have eM := eM.symm; subst eM
    refine yp (v := .int (-1)) hC hK hH flX9_64 hc_w rfl rfl (Nat.le_of_ble_eq_true rfl) dX9_text_53 (fun H locs M9 hc_w hfr hH => ?_)
    have hc_w : M9 w = some (.inr (6, [.int 0, .int 2, .int 0, .int 0, .int 0, .int 0, .int 0, .int (-1), .ref cs, .ref bs, .ref tp])) := hc_w
    have hc_ro : M9 ro = some (.inr (7, [.ref w, .ref im, .ref rd, .ref rc, .ref cu])) := (hfr ro n_ro_w).trans hc_ro
    have hc_cs : M9 cs = some (.inl (kA 0, 8, .inl (c100 f))) := (hfr cs n_cs_w).trans hc_cs
    have hc_rd : M9 rd = some (.inr (3, [.ref nb, .ref vb, .int no, .int wi, .ref tp, .int 0, .int 0, .int 0, .int 0, .int va])) := (hfr rd n_rd_w).trans hc_rd
    have hF : ∀ q, q ≠ w → q ≠ cs → q ≠ rd → M9 q = M q := fun q h0 h1 h2 => (hfr q h0).trans (hF q h0 h1 h2)
    refine lv_aload_n hx hb dX9_text_56 rfl (lv_at hl 1 rfl) ?_
    refine xg hC hK hH flX9_12 hc_ro rfl dX9_text_57 ?_
    refine xg hC hK hH flX9_64 hc_w rfl dX9_text_60 ?_
    refine lv_iconst (v := -1) hx hb dX9_text_63 (by decide) ?_
    refine jic_eq (tgt := 69) hx hb dX9_text_64 (by decide) (fun c10 => ?_) (fun c10 => absurd c10 (by decide))
    refine lv_aload_n hx hb dX9_text_69 rfl (lv_at hl 1 rfl) ?_
    refine xg hC hK hH flX9_23 hc_ro rfl dX9_text_70 ?_
    refine lv_aload_n hx hb dX9_text_73 rfl (lv_at hl 1 rfl) ?_
    refine xg hC hK hH flX9_12 hc_ro rfl dX9_text_74 ?_
    refine xg hC hK hH flX9_52 hc_w rfl dX9_text_77 ?_
    refine lv_iload_n hx hb dX9_text_80 rfl (lv_at hl 0 rfl) ?_
    refine goV hK hH (runV (As := [.ref tp, .int 0]) (rest := []) hC hK hH (c_X4_open hc_rd ht_tp) mlX9_56 (rcvM hK hH hc_rd rfl) ⟨⟨Nat.le_of_ble_eq_true rfl, Nat.le_of_ble_eq_true rfl⟩, Nat.le_of_ble_eq_true rfl, Nat.le_of_ble_eq_true rfl⟩ rfl hl.1 rfl (Nat.le_of_ble_eq_true rfl) dX9_text_81) (fun M11 T12 H locs hP hz hH => ?_)
    try dsimp only at hP
    obtain ⟨(hx_rd), eT, hfr⟩ := hP
    have eT := eT.symm; subst eT
    have hc_ro : M11 ro = some (.inr (7, [.ref w, .ref im, .ref rd, .ref rc, .ref cu])) := (hfr ro n_ro_rd).trans hc_ro
    have hc_w : M11 w = some (.inr (6, [.int 0, .int 2, .int 0, .int 0, .int 0, .int 0, .int 0, .int (-1), .ref cs, .ref bs, .ref tp])) := (hfr w n_w_rd).trans hc_w
    have hc_cs : M11 cs = some (.inl (kA 0, 8, .inl (c100 f))) := (hfr cs n_cs_rd).trans hc_cs
    have hc_rd : M11 rd = some (.inr (3, [.ref nb, .ref vb, .int no, .int wi, .ref tp, .int 0, .int 0, .int 0, .int 0, .int va])) := hx_rd
    have hF : ∀ q, q ≠ w → q ≠ cs → q ≠ rd → M11 q = M q := fun q h0 h1 h2 => (hfr q h2).trans (hF q h0 h1 h2)
    refine lv_iconst (v := 0) hx hb dX9_text_84 (by decide) ?_
    refine lv_istore_n (lv' := [(3, .int 0), (2, .int 0), (0, .ref ro), (1, .int an)]) hx hb dX9_text_85 rfl hl (by decide) rfl (fun ls hl => ?_)
    refine lv_iload_n hx hb dX9_text_86 rfl (lv_at hl 0 rfl) ?_
    refine lv_sipush (v := 600) hx hb dX9_text_87 (by decide) ?_
    refine jic_ge (tgt := 133) hx hb dX9_text_90 (by decide) (fun c14 => absurd c14 (by decide)) (fun c14 => ?_)
    refine lv_aload_n hx hb dX9_text_93 rfl (lv_at hl 2 rfl) ?_
    refine xg hC hK hH flX9_23 hc_ro rfl dX9_text_94 ?_
    refine goI hK hH (runV (As := []) (rest := []) hC hK hH (c_X4_atEnd hc_rd) mlX9_66 (rcvM hK hH hc_rd rfl) ⟨⟨Nat.le_of_ble_eq_true rfl, Nat.le_of_ble_eq_true rfl⟩, Nat.le_of_ble_eq_true rfl, Nat.le_of_ble_eq_true rfl⟩ rfl hl.1 rfl (Nat.le_of_ble_eq_true rfl) dX9_text_97) (fun r17 M15 T16 H locs hP hz hH => ?_)
    try dsimp only at hP
    obtain ⟨(rfl), eT, eM⟩ := hP
    have eT := eT.symm; subst eT
    have eM := eM.symm; subst eM
    refine jif_ne (tgt := 133) hx hb dX9_text_100 (by decide) (fun c18 => ?_) (fun c18 => absurd c18 (by decide))
    refine lv_iload_n hx hb dX9_text_133 rfl (lv_at hl 0 rfl) ?_
    exact ret_i hC hr hlk hK hH (⟨rfl, rfl, hF⟩) (Nat.le_of_ble_eq_true rfl) (Nat.le_of_ble_eq_true rfl) dX9_text_134
  · skip
    have c2 : an.toInt ≠ 0 := c2
    refine lv_aload_n hx hb dX9_text_20 rfl (lv_at hl 1 rfl) ?_
    refine xg hC hK hH flX9_12 hc_ro rfl dX9_text_21 ?_
    refine goV hK hH (runV (As := []) (rest := []) hC hK hH (c_X8_begin hc_w hc_cs) mlX9_49 (rcvM hK hH hc_w rfl) ⟨⟨Nat.le_of_ble_eq_true rfl, Nat.le_of_ble_eq_true rfl⟩, Nat.le_of_ble_eq_true rfl, Nat.le_of_ble_eq_true rfl⟩ rfl hl.1 rfl (Nat.le_of_ble_eq_true rfl) dX9_text_24) (fun M19 T20 H locs hP hz hH => ?_)
    try dsimp only at hP
    obtain ⟨(⟨hx_w, hx_cs⟩), eT, hfr⟩ := hP
    have eT := eT.symm; subst eT
    have hc_ro : M19 ro = some (.inr (7, [.ref w, .ref im, .ref rd, .ref rc, .ref cu])) := (hfr ro n_ro_w n_ro_cs).trans hc_ro
    have hc_w : M19 w = some (.inr (6, [.int 0, .int 2, .int 0, .int 0, .int 0, .int 0, .int 0, .int (-1), .ref cs, .ref bs, .ref tp])) := hx_w
    have hc_cs : M19 cs = some (.inl (kA 0, 8, .inl (c100 (c100 f)))) := hx_cs
    have hc_rd : M19 rd = some (.inr (3, [.ref nb, .ref vb, .int no, .int wi, .ref by_, .int le, .int ki, .int pl, .int be, .int va])) := (hfr rd n_rd_w n_rd_cs).trans hc_rd
    have hF : ∀ q, q ≠ w → q ≠ cs → q ≠ rd → M19 q = M q := fun q h0 h1 h2 => (hfr q h0 h1).trans (hF q h0 h1 h2)
    refine lv_aload_n hx hb dX9_text_27 rfl (lv_at hl 1 rfl) ?_
    refine xg hC hK hH flX9_23 hc_ro rfl dX9_text_28 ?_
    refine lv_aload_n hx hb dX9_text_31 rfl (lv_at hl 1 rfl) ?_
    refine xg hC hK hH flX9_12 hc_ro rfl dX9_text_32 ?_
    refine xg hC hK hH flX9_52 hc_w rfl dX9_text_35 ?_
    refine lv_iload_n hx hb dX9_text_38 rfl (lv_at hl 0 rfl) ?_
    refine goV hK hH (runV (As := [.ref tp, .int 0]) (rest := []) hC hK hH (c_X4_open hc_rd ht_tp) mlX9_56 (rcvM hK hH hc_rd rfl) ⟨⟨Nat.le_of_ble_eq_true rfl, Nat.le_of_ble_eq_true rfl⟩, Nat.le_of_ble_eq_true rfl, Nat.le_of_ble_eq_true rfl⟩ rfl hl.1 rfl (Nat.le_of_ble_eq_true rfl) dX9_text_39) (fun M22 T23 H locs hP hz hH => ?_)
    try dsimp only at hP
    obtain ⟨(hx_rd), eT, hfr⟩ := hP
    have eT := eT.symm; subst eT
    have hc_ro : M22 ro = some (.inr (7, [.ref w, .ref im, .ref rd, .ref rc, .ref cu])) := (hfr ro n_ro_rd).trans hc_ro
    have hc_w : M22 w = some (.inr (6, [.int 0, .int 2, .int 0, .int 0, .int 0, .int 0, .int 0, .int (-1), .ref cs, .ref bs, .ref tp])) := (hfr w n_w_rd).trans hc_w
    have hc_cs : M22 cs = some (.inl (kA 0, 8, .inl (c100 (c100 f)))) := (hfr cs n_cs_rd).trans hc_cs
    have hc_rd : M22 rd = some (.inr (3, [.ref nb, .ref vb, .int no, .int wi, .ref tp, .int 0, .int 0, .int 0, .int 0, .int va])) := hx_rd
    have hF : ∀ q, q ≠ w → q ≠ cs → q ≠ rd → M22 q = M q := fun q h0 h1 h2 => (hfr q h2).trans (hF q h0 h1 h2)
    refine lv_aload_n hx hb dX9_text_42 rfl (lv_at hl 1 rfl) ?_
    refine xg hC hK hH flX9_12 hc_ro rfl dX9_text_43 ?_
    refine lv_aload_n hx hb dX9_text_46 rfl (lv_at hl 1 rfl) ?_
    refine xg hC hK hH flX9_23 hc_ro rfl dX9_text_47 ?_
    refine goI hK hH (runV (As := []) (rest := [.ref w]) hC hK hH (c_X4_faultPlace hc_rd) mlX9_60 (rcvM hK hH hc_rd rfl) ⟨⟨Nat.le_of_ble_eq_true rfl, Nat.le_of_ble_eq_true rfl⟩, Nat.le_of_ble_eq_true rfl, Nat.le_of_ble_eq_true rfl⟩ rfl hl.1 rfl (Nat.le_of_ble_eq_true rfl) dX9_text_50) (fun r27 M25 T26 H locs hP hz hH => ?_)
    try dsimp only at hP
    obtain ⟨(rfl), eT, eM⟩ := hP
    have eT := eT.symm; subst eT
    have eM := eM.symm; subst eM
    refine yp (v := .int (-1)) hC hK hH flX9_64 hc_w rfl rfl (Nat.le_of_ble_eq_true rfl) dX9_text_53 (fun H locs M28 hc_w hfr hH => ?_)
    have hc_w : M28 w = some (.inr (6, [.int 0, .int 2, .int 0, .int 0, .int 0, .int 0, .int 0, .int (-1), .ref cs, .ref bs, .ref tp])) := hc_w
    have hc_ro : M28 ro = some (.inr (7, [.ref w, .ref im, .ref rd, .ref rc, .ref cu])) := (hfr ro n_ro_w).trans hc_ro
    have hc_cs : M28 cs = some (.inl (kA 0, 8, .inl (c100 (c100 f)))) := (hfr cs n_cs_w).trans hc_cs
    have hc_rd : M28 rd = some (.inr (3, [.ref nb, .ref vb, .int no, .int wi, .ref tp, .int 0, .int 0, .int 0, .int 0, .int va])) := (hfr rd n_rd_w).trans hc_rd
    have hF : ∀ q, q ≠ w → q ≠ cs → q ≠ rd → M28 q = M q := fun q h0 h1 h2 => (hfr q h0).trans (hF q h0 h1 h2)
    refine lv_aload_n hx hb dX9_text_56 rfl (lv_at hl 1 rfl) ?_
    refine xg hC hK hH flX9_12 hc_ro rfl dX9_text_57 ?_
    refine xg hC hK hH flX9_64 hc_w rfl dX9_text_60 ?_
    refine lv_iconst (v := -1) hx hb dX9_text_63 (by decide) ?_
    refine jic_eq (tgt := 69) hx hb dX9_text_64 (by decide) (fun c29 => ?_) (fun c29 => absurd c29 (by decide))
    refine lv_aload_n hx hb dX9_text_69 rfl (lv_at hl 1 rfl) ?_
    refine xg hC hK hH flX9_23 hc_ro rfl dX9_text_70 ?_
    refine lv_aload_n hx hb dX9_text_73 rfl (lv_at hl 1 rfl) ?_
    refine xg hC hK hH flX9_12 hc_ro rfl dX9_text_74 ?_
    refine xg hC hK hH flX9_52 hc_w rfl dX9_text_77 ?_
    refine lv_iload_n hx hb dX9_text_80 rfl (lv_at hl 0 rfl) ?_
    refine goV hK hH (runV (As := [.ref tp, .int 0]) (rest := []) hC hK hH (c_X4_open hc_rd ht_tp) mlX9_56 (rcvM hK hH hc_rd rfl) ⟨⟨Nat.le_of_ble_eq_true rfl, Nat.le_of_ble_eq_true rfl⟩, Nat.le_of_ble_eq_true rfl, Nat.le_of_ble_eq_true rfl⟩ rfl hl.1 rfl (Nat.le_of_ble_eq_true rfl) dX9_text_81) (fun M30 T31 H locs hP hz hH => ?_)
    try dsimp only at hP
    obtain ⟨(hx_rd), eT, hfr⟩ := hP
    have eT := eT.symm; subst eT
    have hc_ro : M30 ro = some (.inr (7, [.ref w, .ref im, .ref rd, .ref rc, .ref cu])) := (hfr ro n_ro_rd).trans hc_ro
    have hc_w : M30 w = some (.inr (6, [.int 0, .int 2, .int 0, .int 0, .int 0, .int 0, .int 0, .int (-1), .ref cs, .ref bs, .ref tp])) := (hfr w n_w_rd).trans hc_w
    have hc_cs : M30 cs = some (.inl (kA 0, 8, .inl (c100 (c100 f)))) := (hfr cs n_cs_rd).trans hc_cs
    have hc_rd : M30 rd = some (.inr (3, [.ref nb, .ref vb, .int no, .int wi, .ref tp, .int 0, .int 0, .int 0, .int 0, .int va])) := hx_rd
    have hF : ∀ q, q ≠ w → q ≠ cs → q ≠ rd → M30 q = M q := fun q h0 h1 h2 => (hfr q h2).trans (hF q h0 h1 h2)
    refine lv_iconst (v := 0) hx hb dX9_text_84 (by decide) ?_
    refine lv_istore_n (lv' := [(3, .int 0), (2, .int 0), (0, .ref ro), (1, .int an)]) hx hb dX9_text_85 rfl hl (by decide) rfl (fun ls hl => ?_)
    refine lv_iload_n hx hb dX9_text_86 rfl (lv_at hl 0 rfl) ?_
    refine lv_sipush (v := 600) hx hb dX9_text_87 (by decide) ?_
    refine jic_ge (tgt := 133) hx hb dX9_text_90 (by decide) (fun c33 => absurd c33 (by decide)) (fun c33 => ?_)
    refine lv_aload_n hx hb dX9_text_93 rfl (lv_at hl 2 rfl) ?_
    refine xg hC hK hH flX9_23 hc_ro rfl dX9_text_94 ?_
    refine goI hK hH (runV (As := []) (rest := []) hC hK hH (c_X4_atEnd hc_rd) mlX9_66 (rcvM hK hH hc_rd rfl) ⟨⟨Nat.le_of_ble_eq_true rfl, Nat.le_of_ble_eq_true rfl⟩, Nat.le_of_ble_eq_true rfl, Nat.le_of_ble_eq_true rfl⟩ rfl hl.1 rfl (Nat.le_of_ble_eq_true rfl) dX9_text_97) (fun r36 M34 T35 H locs hP hz hH => ?_)
    try dsimp only at hP
    obtain ⟨(rfl), eT, eM⟩ := hP
    have eT := eT.symm; subst eT
    have eM := eM.symm; subst eM
    refine jif_ne (tgt := 133) hx hb dX9_text_100 (by decide) (fun c37 => ?_) (fun c37 => absurd c37 (by decide))
    refine lv_iload_n hx hb dX9_text_133 rfl (lv_at hl 0 rfl) ?_
    exact ret_i hC hr hlk hK hH (⟨rfl, rfl, hF⟩) (Nat.le_of_ble_eq_true rfl) (Nat.le_of_ble_eq_true rfl) dX9_text_134
set_option maxHeartbeats 4000000 in
set_option maxRecDepth 100000 in
theorem c_J7_fill_53178 {l : Launch} {D : va_G} {kA : Nat → ClassId} {M : mM} {T : mT} {sz : Nat} {a : Nat} {x : Int32} (ht_a : T a = some 3) : mCv l yJ7_fill_53178 cJ7_fill_53178 4 0 0 0 D kA M T sz [.ref a, .int x] (fun u => (True) ∧ u.2 = T ∧ u.1 = M) := by
  unfold mCv
  refine start_W (by decide) (Nat.le_of_ble_eq_true rfl) ?_
  intro p e s m below meth c ls hC hr hlk hnm hK hH hsz hl
  have hx := hC.1
  have hb := hC.2.1
  have hl : lv_has ls 4 [(0, .ref a), (1, .int x)] := hl
  refine lv_iconst (v := 0) hx hb dJ7_fill_53178_0 (by decide) ?_
  refine lv_istore_n (lv' := [(2, .int 0), (0, .ref a), (1, .int x)]) hx hb dJ7_fill_53178_1 rfl hl (by decide) rfl (fun ls hl => ?_)
  refine lv_aload_n hx hb dJ7_fill_53178_2 rfl (lv_at hl 1 rfl) ?_
  refine tlen (v := 8) hC hK hH ht_a rfl rfl rfl dJ7_fill_53178_3 ?_
  refine lv_istore_n (lv' := [(3, .int 8), (2, .int 0), (0, .ref a), (1, .int x)]) hx hb dJ7_fill_53178_4 rfl hl (by decide) rfl (fun ls hl => ?_)
  refine lv_iload_n hx hb dJ7_fill_53178_5 rfl (lv_at hl 1 rfl) ?_
  refine lv_iload_n hx hb dJ7_fill_53178_6 rfl (lv_at hl 0 rfl) ?_
  refine jic_ge (tgt := 20) hx hb dJ7_fill_53178_7 (by decide) (fun c1 => absurd c1 (by decide)) (fun c1 => ?_)
  refine lv_aload_n hx hb dJ7_fill_53178_10 rfl (lv_at hl 2 rfl) ?_
  refine lv_iload_n hx hb dJ7_fill_53178_11 rfl (lv_at hl 1 rfl) ?_
  refine lv_iload_n hx hb dJ7_fill_53178_12 rfl (lv_at hl 3 rfl) ?_
  refine tist (x := x) hC hK hH ht_a rfl (iIn (by decide) (by decide)) (iRg _).1 (iRg _).2 dJ7_fill_53178_13 (fun H locs hH => ?_)
  refine lv_iinc (v := 1) (lv' := [(2, .int 1), (3, .int 8), (0, .ref a), (1, .int x)]) hx hb dJ7_fill_53178_14 hl (k := 1) rfl (by decide) (by decide) rfl (fun ls hl => ?_)
  refine lv_goto (tgt := 5) hx hb dJ7_fill_53178_17 (by decide) ?_
  refine lv_iload_n hx hb dJ7_fill_53178_5 rfl (lv_at hl 0 rfl) ?_
  refine lv_iload_n hx hb dJ7_fill_53178_6 rfl (lv_at hl 1 rfl) ?_
  refine jic_ge (tgt := 20) hx hb dJ7_fill_53178_7 (by decide) (fun c2 => absurd c2 (by decide)) (fun c2 => ?_)
  refine lv_aload_n hx hb dJ7_fill_53178_10 rfl (lv_at hl 2 rfl) ?_
  refine lv_iload_n hx hb dJ7_fill_53178_11 rfl (lv_at hl 0 rfl) ?_
  refine lv_iload_n hx hb dJ7_fill_53178_12 rfl (lv_at hl 3 rfl) ?_
  refine tist (x := x) hC hK hH ht_a rfl (iIn (by decide) (by decide)) (iRg _).1 (iRg _).2 dJ7_fill_53178_13 (fun H locs hH => ?_)
  refine lv_iinc (v := 2) (lv' := [(2, .int 2), (3, .int 8), (0, .ref a), (1, .int x)]) hx hb dJ7_fill_53178_14 hl (k := 0) rfl (by decide) (by decide) rfl (fun ls hl => ?_)
  refine lv_goto (tgt := 5) hx hb dJ7_fill_53178_17 (by decide) ?_
  refine lv_iload_n hx hb dJ7_fill_53178_5 rfl (lv_at hl 0 rfl) ?_
  refine lv_iload_n hx hb dJ7_fill_53178_6 rfl (lv_at hl 1 rfl) ?_
  refine jic_ge (tgt := 20) hx hb dJ7_fill_53178_7 (by decide) (fun c3 => absurd c3 (by decide)) (fun c3 => ?_)
  refine lv_aload_n hx hb dJ7_fill_53178_10 rfl (lv_at hl 2 rfl) ?_
  refine lv_iload_n hx hb dJ7_fill_53178_11 rfl (lv_at hl 0 rfl) ?_
  refine lv_iload_n hx hb dJ7_fill_53178_12 rfl (lv_at hl 3 rfl) ?_
  refine tist (x := x) hC hK hH ht_a rfl (iIn (by decide) (by decide)) (iRg _).1 (iRg _).2 dJ7_fill_53178_13 (fun H locs hH => ?_)
  refine lv_iinc (v := 3) (lv' := [(2, .int 3), (3, .int 8), (0, .ref a), (1, .int x)]) hx hb dJ7_fill_53178_14 hl (k := 0) rfl (by decide) (by decide) rfl (fun ls hl => ?_)
  refine lv_goto (tgt := 5) hx hb dJ7_fill_53178_17 (by decide) ?_
  refine lv_iload_n hx hb dJ7_fill_53178_5 rfl (lv_at hl 0 rfl) ?_
  refine lv_iload_n hx hb dJ7_fill_53178_6 rfl (lv_at hl 1 rfl) ?_
  refine jic_ge (tgt := 20) hx hb dJ7_fill_53178_7 (by decide) (fun c4 => absurd c4 (by decide)) (fun c4 => ?_)
  refine lv_aload_n hx hb dJ7_fill_53178_10 rfl (lv_at hl 2 rfl) ?_
  refine lv_iload_n hx hb dJ7_fill_53178_11 rfl (lv_at hl 0 rfl) ?_
  refine lv_iload_n hx hb dJ7_fill_53178_12 rfl (lv_at hl 3 rfl) ?_
  refine tist (x := x) hC hK hH ht_a rfl (iIn (by decide) (by decide)) (iRg _).1 (iRg _).2 dJ7_fill_53178_13 (fun H locs hH => ?_)
  refine lv_iinc (v := 4) (lv' := [(2, .int 4), (3, .int 8), (0, .ref a), (1, .int x)]) hx hb dJ7_fill_53178_14 hl (k := 0) rfl (by decide) (by decide) rfl (fun ls hl => ?_)
  refine lv_goto (tgt := 5) hx hb dJ7_fill_53178_17 (by decide) ?_
  refine lv_iload_n hx hb dJ7_fill_53178_5 rfl (lv_at hl 0 rfl) ?_
  refine lv_iload_n hx hb dJ7_fill_53178_6 rfl (lv_at hl 1 rfl) ?_
  refine jic_ge (tgt := 20) hx hb dJ7_fill_53178_7 (by decide) (fun c5 => absurd c5 (by decide)) (fun c5 => ?_)
  refine lv_aload_n hx hb dJ7_fill_53178_10 rfl (lv_at hl 2 rfl) ?_
  refine lv_iload_n hx hb dJ7_fill_53178_11 rfl (lv_at hl 0 rfl) ?_
  refine lv_iload_n hx hb dJ7_fill_53178_12 rfl (lv_at hl 3 rfl) ?_
  refine tist (x := x) hC hK hH ht_a rfl (iIn (by decide) (by decide)) (iRg _).1 (iRg _).2 dJ7_fill_53178_13 (fun H locs hH => ?_)
  refine lv_iinc (v := 5) (lv' := [(2, .int 5), (3, .int 8), (0, .ref a), (1, .int x)]) hx hb dJ7_fill_53178_14 hl (k := 0) rfl (by decide) (by decide) rfl (fun ls hl => ?_)
  refine lv_goto (tgt := 5) hx hb dJ7_fill_53178_17 (by decide) ?_
  refine lv_iload_n hx hb dJ7_fill_53178_5 rfl (lv_at hl 0 rfl) ?_
  refine lv_iload_n hx hb dJ7_fill_53178_6 rfl (lv_at hl 1 rfl) ?_
  refine jic_ge (tgt := 20) hx hb dJ7_fill_53178_7 (by decide) (fun c6 => absurd c6 (by decide)) (fun c6 => ?_)
  refine lv_aload_n hx hb dJ7_fill_53178_10 rfl (lv_at hl 2 rfl) ?_
  refine lv_iload_n hx hb dJ7_fill_53178_11 rfl (lv_at hl 0 rfl) ?_
  refine lv_iload_n hx hb dJ7_fill_53178_12 rfl (lv_at hl 3 rfl) ?_
  refine tist (x := x) hC hK hH ht_a rfl (iIn (by decide) (by decide)) (iRg _).1 (iRg _).2 dJ7_fill_53178_13 (fun H locs hH => ?_)
  refine lv_iinc (v := 6) (lv' := [(2, .int 6), (3, .int 8), (0, .ref a), (1, .int x)]) hx hb dJ7_fill_53178_14 hl (k := 0) rfl (by decide) (by decide) rfl (fun ls hl => ?_)
  refine lv_goto (tgt := 5) hx hb dJ7_fill_53178_17 (by decide) ?_
  refine lv_iload_n hx hb dJ7_fill_53178_5 rfl (lv_at hl 0 rfl) ?_
  refine lv_iload_n hx hb dJ7_fill_53178_6 rfl (lv_at hl 1 rfl) ?_
  refine jic_ge (tgt := 20) hx hb dJ7_fill_53178_7 (by decide) (fun c7 => absurd c7 (by decide)) (fun c7 => ?_)
  refine lv_aload_n hx hb dJ7_fill_53178_10 rfl (lv_at hl 2 rfl) ?_
  refine lv_iload_n hx hb dJ7_fill_53178_11 rfl (lv_at hl 0 rfl) ?_
  refine lv_iload_n hx hb dJ7_fill_53178_12 rfl (lv_at hl 3 rfl) ?_
  refine tist (x := x) hC hK hH ht_a rfl (iIn (by decide) (by decide)) (iRg _).1 (iRg _).2 dJ7_fill_53178_13 (fun H locs hH => ?_)
  refine lv_iinc (v := 7) (lv' := [(2, .int 7), (3, .int 8), (0, .ref a), (1, .int x)]) hx hb dJ7_fill_53178_14 hl (k := 0) rfl (by decide) (by decide) rfl (fun ls hl => ?_)
  refine lv_goto (tgt := 5) hx hb dJ7_fill_53178_17 (by decide) ?_
  refine lv_iload_n hx hb dJ7_fill_53178_5 rfl (lv_at hl 0 rfl) ?_
  refine lv_iload_n hx hb dJ7_fill_53178_6 rfl (lv_at hl 1 rfl) ?_
  refine jic_ge (tgt := 20) hx hb dJ7_fill_53178_7 (by decide) (fun c8 => absurd c8 (by decide)) (fun c8 => ?_)
  refine lv_aload_n hx hb dJ7_fill_53178_10 rfl (lv_at hl 2 rfl) ?_
  refine lv_iload_n hx hb dJ7_fill_53178_11 rfl (lv_at hl 0 rfl) ?_
  refine lv_iload_n hx hb dJ7_fill_53178_12 rfl (lv_at hl 3 rfl) ?_
  refine tist (x := x) hC hK hH ht_a rfl (iIn (by decide) (by decide)) (iRg _).1 (iRg _).2 dJ7_fill_53178_13 (fun H locs hH => ?_)
  refine lv_iinc (v := 8) (lv' := [(2, .int 8), (3, .int 8), (0, .ref a), (1, .int x)]) hx hb dJ7_fill_53178_14 hl (k := 0) rfl (by decide) (by decide) rfl (fun ls hl => ?_)
  refine lv_goto (tgt := 5) hx hb dJ7_fill_53178_17 (by decide) ?_
  refine lv_iload_n hx hb dJ7_fill_53178_5 rfl (lv_at hl 0 rfl) ?_
  refine lv_iload_n hx hb dJ7_fill_53178_6 rfl (lv_at hl 1 rfl) ?_
  refine jic_ge (tgt := 20) hx hb dJ7_fill_53178_7 (by decide) (fun c9 => ?_) (fun c9 => absurd c9 (by decide))
  exact ret_v hC hr hlk hK hH (⟨trivial, rfl, rfl⟩) (Nat.le_of_ble_eq_true rfl) (Nat.le_of_ble_eq_true rfl) dJ7_fill_53178_20
set_option maxHeartbeats 4000000 in
set_option maxRecDepth 100000 in
theorem c_X2_own {l : Launch} {D : va_G} {kA : Nat → ClassId} {M : mM} {T : mT} {sz : Nat} {h : Nat} {ps wi : Int32} (ht_h : T h = some 1) (hps : 0 ≤ ps.toInt ∧ ps.toInt ≤ 7) : mCv l yX2_own cX2_own 3 0 0 0 D kA M T sz [.ref h, .int ps, .int wi] (fun u => (True) ∧ u.2 = T ∧ u.1 = M) := by
  unfold mCv
  refine start_W (by decide) (Nat.le_of_ble_eq_true rfl) ?_
  intro p e s m below meth c ls hC hr hlk hnm hK hH hsz hl
  have hx := hC.1
  have hb := hC.2.1
  have hl : lv_has ls 3 [(0, .ref h), (1, .int ps), (2, .int wi)] := hl
  refine lv_aload_n hx hb dX2_own_0 rfl (lv_at hl 0 rfl) ?_
  refine lv_iload_n hx hb dX2_own_1 rfl (lv_at hl 1 rfl) ?_
  refine tpu hC hK hH flX2_65 ht_h rfl rfl (iRg _).1 (iRg _).2 rfl rfl dX2_own_2 (fun H locs hH => ?_)
  refine lv_aload_n hx hb dX2_own_5 rfl (lv_at hl 0 rfl) ?_
  refine lv_iload_n hx hb dX2_own_6 rfl (lv_at hl 2 rfl) ?_
  refine tpu hC hK hH flX2_68 ht_h rfl rfl (iRg _).1 (iRg _).2 rfl rfl dX2_own_7 (fun H locs hH => ?_)
  refine lv_aload_n hx hb dX2_own_10 rfl (lv_at hl 0 rfl) ?_
  refine tgr hC hK hH flX2_9 ht_h rfl rfl dX2_own_11 (fun q1 t_q1 => ?_)
  refine lv_iload_n hx hb dX2_own_14 rfl (lv_at hl 1 rfl) ?_
  refine tild hC hK hH t_q1 rfl (iIn (by omega) (by omega)) dX2_own_15 (fun x2 l_x2 g_x2 => ?_)
  refine jif_ne (tgt := 26) hx hb dX2_own_16 (by decide) (fun c3 => ?_) (fun c3 => ?_)
  · skip
    have c3 : x2.toInt ≠ 0 := c3
    exact ret_v hC hr hlk hK hH (⟨trivial, rfl, rfl⟩) (Nat.le_of_ble_eq_true rfl) (Nat.le_of_ble_eq_true rfl) dX2_own_26
  · skip
    have c3 : x2.toInt = 0 := c3
    refine lv_aload_n hx hb dX2_own_19 rfl (lv_at hl 0 rfl) ?_
    refine tgr hC hK hH flX2_9 ht_h rfl rfl dX2_own_20 (fun q4 t_q4 => ?_)
    refine lv_iload_n hx hb dX2_own_23 rfl (lv_at hl 1 rfl) ?_
    refine lv_iload_n hx hb dX2_own_24 rfl (lv_at hl 2 rfl) ?_
    refine tist (x := wi) hC hK hH t_q4 rfl (iIn (by omega) (by omega)) (iRg _).1 (iRg _).2 dX2_own_25 (fun H locs hH => ?_)
    exact ret_v hC hr hlk hK hH (⟨trivial, rfl, rfl⟩) (Nat.le_of_ble_eq_true rfl) (Nat.le_of_ble_eq_true rfl) dX2_own_26
set_option maxHeartbeats 4000000 in
set_option maxRecDepth 100000 in
theorem c_X2_begin {l : Launch} {D : va_G} {kA : Nat → ClassId} {M : mM} {T : mT} {sz : Nat} {h : Nat} {pe op : Int32} (ht_h : T h = some 1) (hpe : 0 ≤ pe.toInt ∧ pe.toInt ≤ 7) : mCv l yX2_begin cX2_begin 3 1 0 0 D kA M T sz [.ref h, .int pe, .int op] (fun u => (True) ∧ u.2 = T ∧ u.1 = M) := by
  unfold mCv
  refine start_W (by decide) (Nat.le_of_ble_eq_true rfl) ?_
  intro p e s m below meth c ls hC hr hlk hnm hK hH hsz hl
  have hx := hC.1
  have hb := hC.2.1
  have hl : lv_has ls 3 [(0, .ref h), (1, .int pe), (2, .int op)] := hl
  refine lv_aload_n hx hb dX2_begin_0 rfl (lv_at hl 0 rfl) ?_
  refine lv_iload_n hx hb dX2_begin_1 rfl (lv_at hl 2 rfl) ?_
  refine jif_eq (tgt := 9) hx hb dX2_begin_2 (by decide) (fun c1 => ?_) (fun c1 => ?_)
  · skip
    have c1 : op.toInt = 0 := c1
    refine lv_iconst (v := 0) hx hb dX2_begin_9 (by decide) ?_
    refine tpu hC hK hH flX2_15 ht_h rfl rfl (iRg _).1 (iRg _).2 rfl rfl dX2_begin_10 (fun H locs hH => ?_)
    refine lv_aload_n hx hb dX2_begin_13 rfl (lv_at hl 0 rfl) ?_
    refine lv_iload_n hx hb dX2_begin_14 rfl (lv_at hl 2 rfl) ?_
    refine jif_eq (tgt := 22) hx hb dX2_begin_15 (by decide) (fun c2 => ?_) (fun c2 => absurd c2 (by have := iRg op; have : (0 : Int32).toInt = 0 := rfl; omega))
    have c2 : op.toInt = 0 := c2
    refine lv_iload_n hx hb dX2_begin_22 rfl (lv_at hl 1 rfl) ?_
    refine tpu hC hK hH flX2_19 ht_h rfl rfl (iRg _).1 (iRg _).2 rfl rfl dX2_begin_23 (fun H locs hH => ?_)
    refine lv_aload_n hx hb dX2_begin_26 rfl (lv_at hl 0 rfl) ?_
    refine lv_iconst (v := -1) hx hb dX2_begin_27 (by decide) ?_
    refine tpu hC hK hH flX2_22 ht_h rfl rfl (iRg _).1 (iRg _).2 rfl rfl dX2_begin_28 (fun H locs hH => ?_)
    refine lv_aload_n hx hb dX2_begin_31 rfl (lv_at hl 0 rfl) ?_
    refine lv_iconst (v := 0) hx hb dX2_begin_32 (by decide) ?_
    refine tpu hC hK hH flX2_25 ht_h rfl rfl (iRg _).1 (iRg _).2 rfl rfl dX2_begin_33 (fun H locs hH => ?_)
    refine lv_aload_n hx hb dX2_begin_36 rfl (lv_at hl 0 rfl) ?_
    refine lv_iconst (v := 0) hx hb dX2_begin_37 (by decide) ?_
    refine tpu hC hK hH flX2_28 ht_h rfl rfl (by decide) (by decide) rfl rfl dX2_begin_38 (fun H locs hH => ?_)
    refine lv_aload_n hx hb dX2_begin_41 rfl (lv_at hl 0 rfl) ?_
    refine tgr hC hK hH flX2_9 ht_h rfl rfl dX2_begin_42 (fun q3 t_q3 => ?_)
    refine lv_iconst (v := 0) hx hb dX2_begin_45 (by decide) ?_
    refine goV hK hH (runS (As := [.ref q3, .int 0]) (rest := []) hC hK hH (c_J7_fill_53178 t_q3) mlX2_32 ⟨⟨Nat.le_of_ble_eq_true rfl, Nat.le_of_ble_eq_true rfl⟩, Nat.le_of_ble_eq_true rfl, Nat.le_of_ble_eq_true rfl⟩ rfl hl.1 rfl (Nat.le_of_ble_eq_true rfl) dX2_begin_46) (fun M4 T5 H locs hP hz hH => ?_)
    try dsimp only at hP
    obtain ⟨(-), eT, eM⟩ := hP
    have eT := eT.symm; subst eT
    have eM := eM.symm; subst eM
    refine lv_aload_n hx hb dX2_begin_49 rfl (lv_at hl 0 rfl) ?_
    refine lv_iload_n hx hb dX2_begin_50 rfl (lv_at hl 1 rfl) ?_
    refine lv_iconst (v := 1) hx hb dX2_begin_51 (by decide) ?_
    refine goV hK hH (runV (As := [.int pe, .int 1]) (rest := []) hC hK hH (c_X2_own ht_h (by omega)) mlX2_38 (rcvT hK hH ht_h rfl rfl) ⟨⟨Nat.le_of_ble_eq_true rfl, Nat.le_of_ble_eq_true rfl⟩, Nat.le_of_ble_eq_true rfl, Nat.le_of_ble_eq_true rfl⟩ rfl hl.1 rfl (Nat.le_of_ble_eq_true rfl) dX2_begin_52) (fun M7 T8 H locs hP hz hH => ?_)
    try dsimp only at hP
    obtain ⟨(-), eT, eM⟩ := hP
    have eT := eT.symm; subst eT
    have eM := eM.symm; subst eM
    exact ret_v hC hr hlk hK hH (⟨trivial, rfl, rfl⟩) (Nat.le_of_ble_eq_true rfl) (Nat.le_of_ble_eq_true rfl) dX2_begin_55
  · skip
    have c1 : op.toInt ≠ 0 := c1
    refine lv_iconst (v := 1) hx hb dX2_begin_5 (by decide) ?_
    refine lv_goto (tgt := 10) hx hb dX2_begin_6 (by decide) ?_
    refine tpu hC hK hH flX2_15 ht_h rfl rfl (iRg _).1 (iRg _).2 rfl rfl dX2_begin_10 (fun H locs hH => ?_)
    refine lv_aload_n hx hb dX2_begin_13 rfl (lv_at hl 0 rfl) ?_
    refine lv_iload_n hx hb dX2_begin_14 rfl (lv_at hl 2 rfl) ?_
    refine jif_eq (tgt := 22) hx hb dX2_begin_15 (by decide) (fun c10 => ?_) (fun c10 => ?_)
    · skip
      have c10 : op.toInt = 0 := c10
      refine lv_iload_n hx hb dX2_begin_22 rfl (lv_at hl 1 rfl) ?_
      refine tpu hC hK hH flX2_19 ht_h rfl rfl (iRg _).1 (iRg _).2 rfl rfl dX2_begin_23 (fun H locs hH => ?_)
      refine lv_aload_n hx hb dX2_begin_26 rfl (lv_at hl 0 rfl) ?_
      refine lv_iconst (v := -1) hx hb dX2_begin_27 (by decide) ?_
      refine tpu hC hK hH flX2_22 ht_h rfl rfl (iRg _).1 (iRg _).2 rfl rfl dX2_begin_28 (fun H locs hH => ?_)
      refine lv_aload_n hx hb dX2_begin_31 rfl (lv_at hl 0 rfl) ?_
      refine lv_iconst (v := 0) hx hb dX2_begin_32 (by decide) ?_
      refine tpu hC hK hH flX2_25 ht_h rfl rfl (iRg _).1 (iRg _).2 rfl rfl dX2_begin_33 (fun H locs hH => ?_)
      refine lv_aload_n hx hb dX2_begin_36 rfl (lv_at hl 0 rfl) ?_
      refine lv_iconst (v := 0) hx hb dX2_begin_37 (by decide) ?_
      refine tpu hC hK hH flX2_28 ht_h rfl rfl (by decide) (by decide) rfl rfl dX2_begin_38 (fun H locs hH => ?_)
      refine lv_aload_n hx hb dX2_begin_41 rfl (lv_at hl 0 rfl) ?_
      refine tgr hC hK hH flX2_9 ht_h rfl rfl dX2_begin_42 (fun q11 t_q11 => ?_)
      refine lv_iconst (v := 0) hx hb dX2_begin_45 (by decide) ?_
      refine goV hK hH (runS (As := [.ref q11, .int 0]) (rest := []) hC hK hH (c_J7_fill_53178 t_q11) mlX2_32 ⟨⟨Nat.le_of_ble_eq_true rfl, Nat.le_of_ble_eq_true rfl⟩, Nat.le_of_ble_eq_true rfl, Nat.le_of_ble_eq_true rfl⟩ rfl hl.1 rfl (Nat.le_of_ble_eq_true rfl) dX2_begin_46) (fun M12 T13 H locs hP hz hH => ?_)
      try dsimp only at hP
      obtain ⟨(-), eT, eM⟩ := hP
      have eT := eT.symm; subst eT
      have eM := eM.symm; subst eM
      refine lv_aload_n hx hb dX2_begin_49 rfl (lv_at hl 0 rfl) ?_
      refine lv_iload_n hx hb dX2_begin_50 rfl (lv_at hl 1 rfl) ?_
      refine lv_iconst (v := 1) hx hb dX2_begin_51 (by decide) ?_
      refine goV hK hH (runV (As := [.int pe, .int 1]) (rest := []) hC hK hH (c_X2_own ht_h (by omega)) mlX2_38 (rcvT hK hH ht_h rfl rfl) ⟨⟨Nat.le_of_ble_eq_true rfl, Nat.le_of_ble_eq_true rfl⟩, Nat.le_of_ble_eq_true rfl, Nat.le_of_ble_eq_true rfl⟩ rfl hl.1 rfl (Nat.le_of_ble_eq_true rfl) dX2_begin_52) (fun M15 T16 H locs hP hz hH => ?_)
      try dsimp only at hP
      obtain ⟨(-), eT, eM⟩ := hP
      have eT := eT.symm; subst eT
      have eM := eM.symm; subst eM
      exact ret_v hC hr hlk hK hH (⟨trivial, rfl, rfl⟩) (Nat.le_of_ble_eq_true rfl) (Nat.le_of_ble_eq_true rfl) dX2_begin_55
    · skip
      have c10 : op.toInt ≠ 0 := c10
      refine lv_iconst (v := -1) hx hb dX2_begin_18 (by decide) ?_
      refine lv_goto (tgt := 23) hx hb dX2_begin_19 (by decide) ?_
      refine tpu hC hK hH flX2_19 ht_h rfl rfl (iRg _).1 (iRg _).2 rfl rfl dX2_begin_23 (fun H locs hH => ?_)
      refine lv_aload_n hx hb dX2_begin_26 rfl (lv_at hl 0 rfl) ?_
      refine lv_iconst (v := -1) hx hb dX2_begin_27 (by decide) ?_
      refine tpu hC hK hH flX2_22 ht_h rfl rfl (iRg _).1 (iRg _).2 rfl rfl dX2_begin_28 (fun H locs hH => ?_)
      refine lv_aload_n hx hb dX2_begin_31 rfl (lv_at hl 0 rfl) ?_
      refine lv_iconst (v := 0) hx hb dX2_begin_32 (by decide) ?_
      refine tpu hC hK hH flX2_25 ht_h rfl rfl (iRg _).1 (iRg _).2 rfl rfl dX2_begin_33 (fun H locs hH => ?_)
      refine lv_aload_n hx hb dX2_begin_36 rfl (lv_at hl 0 rfl) ?_
      refine lv_iconst (v := 0) hx hb dX2_begin_37 (by decide) ?_
      refine tpu hC hK hH flX2_28 ht_h rfl rfl (by decide) (by decide) rfl rfl dX2_begin_38 (fun H locs hH => ?_)
      refine lv_aload_n hx hb dX2_begin_41 rfl (lv_at hl 0 rfl) ?_
      refine tgr hC hK hH flX2_9 ht_h rfl rfl dX2_begin_42 (fun q18 t_q18 => ?_)
      refine lv_iconst (v := 0) hx hb dX2_begin_45 (by decide) ?_
      refine goV hK hH (runS (As := [.ref q18, .int 0]) (rest := []) hC hK hH (c_J7_fill_53178 t_q18) mlX2_32 ⟨⟨Nat.le_of_ble_eq_true rfl, Nat.le_of_ble_eq_true rfl⟩, Nat.le_of_ble_eq_true rfl, Nat.le_of_ble_eq_true rfl⟩ rfl hl.1 rfl (Nat.le_of_ble_eq_true rfl) dX2_begin_46) (fun M19 T20 H locs hP hz hH => ?_)
      try dsimp only at hP
      obtain ⟨(-), eT, eM⟩ := hP
      have eT := eT.symm; subst eT
      have eM := eM.symm; subst eM
      refine lv_aload_n hx hb dX2_begin_49 rfl (lv_at hl 0 rfl) ?_
      refine lv_iload_n hx hb dX2_begin_50 rfl (lv_at hl 1 rfl) ?_
      refine lv_iconst (v := 1) hx hb dX2_begin_51 (by decide) ?_
      refine goV hK hH (runV (As := [.int pe, .int 1]) (rest := []) hC hK hH (c_X2_own ht_h (by omega)) mlX2_38 (rcvT hK hH ht_h rfl rfl) ⟨⟨Nat.le_of_ble_eq_true rfl, Nat.le_of_ble_eq_true rfl⟩, Nat.le_of_ble_eq_true rfl, Nat.le_of_ble_eq_true rfl⟩ rfl hl.1 rfl (Nat.le_of_ble_eq_true rfl) dX2_begin_52) (fun M22 T23 H locs hP hz hH => ?_)
      try dsimp only at hP
      obtain ⟨(-), eT, eM⟩ := hP
      have eT := eT.symm; subst eT
      have eM := eM.symm; subst eM
      exact ret_v hC hr hlk hK hH (⟨trivial, rfl, rfl⟩) (Nat.le_of_ble_eq_true rfl) (Nat.le_of_ble_eq_true rfl) dX2_begin_55
set_option maxHeartbeats 4000000 in
set_option maxRecDepth 100000 in
theorem c_X2_copy {l : Launch} {D : va_G} {kA : Nat → ClassId} {M : mM} {T : mT} {sz : Nat} {h o : Nat} (ht_h : T h = some 1) (ht_o : T o = some 1) : mCv l yX2_copy cX2_copy 2 1 0 0 D kA M T sz [.ref h, .ref o] (fun u => (True) ∧ u.2 = T ∧ u.1 = M) := by
  unfold mCv
  refine start_W (by decide) (Nat.le_of_ble_eq_true rfl) ?_
  intro p e s m below meth c ls hC hr hlk hnm hK hH hsz hl
  have hx := hC.1
  have hb := hC.2.1
  have hl : lv_has ls 2 [(0, .ref h), (1, .ref o)] := hl
  refine lv_aload_n hx hb dX2_copy_0 rfl (lv_at hl 0 rfl) ?_
  refine lv_aload_n hx hb dX2_copy_1 rfl (lv_at hl 1 rfl) ?_
  refine tg hC hK hH flX2_15 ht_o rfl rfl dX2_copy_2 (fun x1 l_x1 g_x1 => ?_)
  refine tpu hC hK hH flX2_15 ht_h rfl rfl (iRg _).1 (iRg _).2 rfl rfl dX2_copy_5 (fun H locs hH => ?_)
  refine lv_aload_n hx hb dX2_copy_8 rfl (lv_at hl 0 rfl) ?_
  refine lv_aload_n hx hb dX2_copy_9 rfl (lv_at hl 1 rfl) ?_
  refine tg hC hK hH flX2_19 ht_o rfl rfl dX2_copy_10 (fun x2 l_x2 g_x2 => ?_)
  refine tpu hC hK hH flX2_19 ht_h rfl rfl (iRg _).1 (iRg _).2 rfl rfl dX2_copy_13 (fun H locs hH => ?_)
  refine lv_aload_n hx hb dX2_copy_16 rfl (lv_at hl 0 rfl) ?_
  refine lv_aload_n hx hb dX2_copy_17 rfl (lv_at hl 1 rfl) ?_
  refine tg hC hK hH flX2_65 ht_o rfl rfl dX2_copy_18 (fun x3 l_x3 g_x3 => ?_)
  refine tpu hC hK hH flX2_65 ht_h rfl rfl (iRg _).1 (iRg _).2 rfl rfl dX2_copy_21 (fun H locs hH => ?_)
  refine lv_aload_n hx hb dX2_copy_24 rfl (lv_at hl 0 rfl) ?_
  refine lv_aload_n hx hb dX2_copy_25 rfl (lv_at hl 1 rfl) ?_
  refine tg hC hK hH flX2_68 ht_o rfl rfl dX2_copy_26 (fun x4 l_x4 g_x4 => ?_)
  refine tpu hC hK hH flX2_68 ht_h rfl rfl (iRg _).1 (iRg _).2 rfl rfl dX2_copy_29 (fun H locs hH => ?_)
  refine lv_aload_n hx hb dX2_copy_32 rfl (lv_at hl 0 rfl) ?_
  refine lv_aload_n hx hb dX2_copy_33 rfl (lv_at hl 1 rfl) ?_
  refine tg hC hK hH flX2_22 ht_o rfl rfl dX2_copy_34 (fun x5 l_x5 g_x5 => ?_)
  refine tpu hC hK hH flX2_22 ht_h rfl rfl (iRg _).1 (iRg _).2 rfl rfl dX2_copy_37 (fun H locs hH => ?_)
  refine lv_aload_n hx hb dX2_copy_40 rfl (lv_at hl 0 rfl) ?_
  refine lv_aload_n hx hb dX2_copy_41 rfl (lv_at hl 1 rfl) ?_
  refine tg hC hK hH flX2_25 ht_o rfl rfl dX2_copy_42 (fun x6 l_x6 g_x6 => ?_)
  refine tpu hC hK hH flX2_25 ht_h rfl rfl (iRg _).1 (iRg _).2 rfl rfl dX2_copy_45 (fun H locs hH => ?_)
  refine lv_aload_n hx hb dX2_copy_48 rfl (lv_at hl 0 rfl) ?_
  refine lv_aload_n hx hb dX2_copy_49 rfl (lv_at hl 1 rfl) ?_
  refine tg hC hK hH flX2_28 ht_o rfl rfl dX2_copy_50 (fun x7 l_x7 g_x7 => ?_)
  have l_x7 : (0 : Int) ≤ x7.toInt := l_x7
  have g_x7 : x7.toInt ≤ 1 := g_x7
  refine tpu hC hK hH flX2_28 ht_h rfl rfl (zl (z01 l_x7 g_x7)) (zh (z01 l_x7 g_x7)) (nz (z01 l_x7 g_x7)) (fz (z01 l_x7 g_x7)) dX2_copy_53 (fun H locs hH => ?_)
  refine lv_aload_n hx hb dX2_copy_56 rfl (lv_at hl 1 rfl) ?_
  refine tgr hC hK hH flX2_9 ht_o rfl rfl dX2_copy_57 (fun q8 t_q8 => ?_)
  refine lv_iconst (v := 0) hx hb dX2_copy_60 (by decide) ?_
  refine lv_aload_n hx hb dX2_copy_61 rfl (lv_at hl 0 rfl) ?_
  refine tgr hC hK hH flX2_9 ht_h rfl rfl dX2_copy_62 (fun q9 t_q9 => ?_)
  refine lv_iconst (v := 0) hx hb dX2_copy_65 (by decide) ?_
  refine lv_bipush (v := 8) hx hb dX2_copy_66 (by decide) ?_
  refine tcpy hC hK hH hl.1 cpX2_71 t_q8 t_q9 rfl rfl rfl (fun _ _ _ => rfl) (by decide) (by decide) (by decide) (Nat.le_of_ble_eq_true rfl) (Nat.le_of_ble_eq_true rfl) (Nat.le_of_ble_eq_true rfl) (Nat.le_of_ble_eq_true rfl) dX2_copy_68 (fun H locs hH => ?_)
  exact ret_v hC hr hlk hK hH (⟨trivial, rfl, rfl⟩) (Nat.le_of_ble_eq_true rfl) (Nat.le_of_ble_eq_true rfl) dX2_copy_71
set_option maxHeartbeats 4000000 in
set_option maxRecDepth 100000 in
theorem c_X1_begin {l : Launch} {D : va_G} {kA : Nat → ClassId} {M : mM} {T : mT} {sz : Nat} {h : Nat} {by_ on to op : Int32} (ht_h : T h = some 2) (hto : 0 ≤ to.toInt ∧ to.toInt ≤ 7) (hop : op = 0 ∨ op = 1) : mCv l yX1_begin cX1_begin 6 2 0 0 D kA M T sz [.ref h, .int by_, .int on, .int to, .int op] (fun u => (True) ∧ u.2 = T ∧ u.1 = M) := by
  unfold mCv
  refine start_W (by decide) (Nat.le_of_ble_eq_true rfl) ?_
  intro p e s m below meth c ls hC hr hlk hnm hK hH hsz hl
  have hx := hC.1
  have hb := hC.2.1
  have hl : lv_has ls 6 [(0, .ref h), (1, .int by_), (2, .int on), (3, .int to), (4, .int op)] := hl
  refine lv_aload_n hx hb dX1_begin_0 rfl (lv_at hl 0 rfl) ?_
  refine lv_iload_n hx hb dX1_begin_1 rfl (lv_at hl 1 rfl) ?_
  refine tpu hC hK hH flX1_41 ht_h rfl rfl (iRg _).1 (iRg _).2 rfl rfl dX1_begin_2 (fun H locs hH => ?_)
  refine lv_aload_n hx hb dX1_begin_5 rfl (lv_at hl 0 rfl) ?_
  refine lv_iload_n hx hb dX1_begin_6 rfl (lv_at hl 2 rfl) ?_
  refine tpu hC hK hH flX1_45 ht_h rfl rfl (iRg _).1 (iRg _).2 rfl rfl dX1_begin_7 (fun H locs hH => ?_)
  refine lv_aload_n hx hb dX1_begin_10 rfl (lv_at hl 0 rfl) ?_
  refine lv_iload_n hx hb dX1_begin_11 rfl (lv_at hl 3 rfl) ?_
  refine tpu hC hK hH flX1_48 ht_h rfl rfl (iRg _).1 (iRg _).2 rfl rfl dX1_begin_12 (fun H locs hH => ?_)
  refine lv_aload_n hx hb dX1_begin_15 rfl (lv_at hl 0 rfl) ?_
  refine lv_iload hx hb dX1_begin_16 (lv_at hl 4 rfl) ?_
  refine tpu hC hK hH flX1_51 ht_h rfl rfl (zl hop) (zh hop) (nz hop) (fz hop) dX1_begin_18 (fun H locs hH => ?_)
  refine lv_aload_n hx hb dX1_begin_21 rfl (lv_at hl 0 rfl) ?_
  refine lv_iload_n hx hb dX1_begin_22 rfl (lv_at hl 3 rfl) ?_
  refine tpu hC hK hH flX1_55 ht_h rfl rfl (by show (0 : Int) ≤ to.toInt; omega) (by show to.toInt ≤ (7 : Int); omega) rfl rfl dX1_begin_23 (fun H locs hH => ?_)
  refine lv_aload_n hx hb dX1_begin_26 rfl (lv_at hl 0 rfl) ?_
  refine lv_iconst (v := -1) hx hb dX1_begin_27 (by decide) ?_
  refine tpu hC hK hH flX1_58 ht_h rfl rfl (iRg _).1 (iRg _).2 rfl rfl dX1_begin_28 (fun H locs hH => ?_)
  refine lv_aload_n hx hb dX1_begin_31 rfl (lv_at hl 0 rfl) ?_
  refine lv_iconst (v := 0) hx hb dX1_begin_32 (by decide) ?_
  refine tpu hC hK hH flX1_61 ht_h rfl rfl (by decide) (by decide) rfl rfl dX1_begin_33 (fun H locs hH => ?_)
  refine lv_aload_n hx hb dX1_begin_36 rfl (lv_at hl 0 rfl) ?_
  refine lv_iconst (v := 0) hx hb dX1_begin_37 (by decide) ?_
  refine tpu hC hK hH flX1_64 ht_h rfl rfl (by decide) (by decide) rfl rfl dX1_begin_38 (fun H locs hH => ?_)
  refine lv_aload_n hx hb dX1_begin_41 rfl (lv_at hl 0 rfl) ?_
  refine lv_iconst (v := 0) hx hb dX1_begin_42 (by decide) ?_
  refine tpu hC hK hH flX1_67 ht_h rfl rfl (by decide) (by decide) rfl rfl dX1_begin_43 (fun H locs hH => ?_)
  refine lv_aload_n hx hb dX1_begin_46 rfl (lv_at hl 0 rfl) ?_
  refine lv_iconst (v := 0) hx hb dX1_begin_47 (by decide) ?_
  refine tpu hC hK hH flX1_70 ht_h rfl rfl (by decide) (by decide) rfl rfl dX1_begin_48 (fun H locs hH => ?_)
  refine lv_aload_n hx hb dX1_begin_51 rfl (lv_at hl 0 rfl) ?_
  refine tgr hC hK hH flX1_20 ht_h rfl rfl dX1_begin_52 (fun q1 t_q1 => ?_)
  refine lv_iload_n hx hb dX1_begin_55 rfl (lv_at hl 3 rfl) ?_
  refine lv_iload hx hb dX1_begin_56 (lv_at hl 4 rfl) ?_
  refine goV hK hH (runV (As := [.int to, .int op]) (rest := []) hC hK hH (c_X2_begin t_q1 (by omega)) mlX1_73 (rcvT hK hH t_q1 rfl rfl) ⟨⟨Nat.le_of_ble_eq_true rfl, Nat.le_of_ble_eq_true rfl⟩, Nat.le_of_ble_eq_true rfl, Nat.le_of_ble_eq_true rfl⟩ rfl hl.1 rfl (Nat.le_of_ble_eq_true rfl) dX1_begin_58) (fun M2 T3 H locs hP hz hH => ?_)
  try dsimp only at hP
  obtain ⟨(-), eT, eM⟩ := hP
  have eT := eT.symm; subst eT
  have eM := eM.symm; subst eM
  refine lv_aload_n hx hb dX1_begin_61 rfl (lv_at hl 0 rfl) ?_
  refine tgr hC hK hH flX1_24 ht_h rfl rfl dX1_begin_62 (fun q5 t_q5 => ?_)
  refine lv_aload_n hx hb dX1_begin_65 rfl (lv_at hl 0 rfl) ?_
  refine tgr hC hK hH flX1_20 ht_h rfl rfl dX1_begin_66 (fun q6 t_q6 => ?_)
  refine goV hK hH (runV (As := [.ref q6]) (rest := []) hC hK hH (c_X2_copy t_q5 t_q6) mlX1_77 (rcvT hK hH t_q5 rfl rfl) ⟨⟨Nat.le_of_ble_eq_true rfl, Nat.le_of_ble_eq_true rfl⟩, Nat.le_of_ble_eq_true rfl, Nat.le_of_ble_eq_true rfl⟩ rfl hl.1 rfl (Nat.le_of_ble_eq_true rfl) dX1_begin_69) (fun M7 T8 H locs hP hz hH => ?_)
  try dsimp only at hP
  obtain ⟨(-), eT, eM⟩ := hP
  have eT := eT.symm; subst eT
  have eM := eM.symm; subst eM
  refine lv_iconst (v := 0) hx hb dX1_begin_72 (by decide) ?_
  refine lv_istore (lv' := [(5, .int 0), (0, .ref h), (1, .int by_), (2, .int on), (3, .int to), (4, .int op)]) hx hb dX1_begin_73 hl (by decide) rfl (fun ls hl => ?_)
  refine lv_iload hx hb dX1_begin_75 (lv_at hl 0 rfl) ?_
  refine lv_bipush (v := 14) hx hb dX1_begin_77 (by decide) ?_
  refine jic_ge (tgt := 120) hx hb dX1_begin_79 (by decide) (fun c10 => absurd c10 (by decide)) (fun c10 => ?_)
  refine lv_aload_n hx hb dX1_begin_82 rfl (lv_at hl 1 rfl) ?_
  refine tgr hC hK hH flX1_27 ht_h rfl rfl dX1_begin_83 (fun q11 t_q11 => ?_)
  refine lv_iload hx hb dX1_begin_86 (lv_at hl 0 rfl) ?_
  refine lv_iconst (v := -1) hx hb dX1_begin_88 (by decide) ?_
  refine tist (x := -1) hC hK hH t_q11 rfl (iIn (by decide) (by decide)) (iRg _).1 (iRg _).2 dX1_begin_89 (fun H locs hH => ?_)
  refine lv_aload_n hx hb dX1_begin_90 rfl (lv_at hl 1 rfl) ?_
  refine tgr hC hK hH flX1_31 ht_h rfl rfl dX1_begin_91 (fun q12 t_q12 => ?_)
  refine lv_iload hx hb dX1_begin_94 (lv_at hl 0 rfl) ?_
  refine lv_iconst (v := 0) hx hb dX1_begin_96 (by decide) ?_
  refine tist (x := 0) hC hK hH t_q12 rfl (iIn (by decide) (by decide)) (iRg _).1 (iRg _).2 dX1_begin_97 (fun H locs hH => ?_)
  refine lv_aload_n hx hb dX1_begin_98 rfl (lv_at hl 1 rfl) ?_
  refine tgr hC hK hH flX1_34 ht_h rfl rfl dX1_begin_99 (fun q13 t_q13 => ?_)
  refine lv_iload hx hb dX1_begin_102 (lv_at hl 0 rfl) ?_
  refine lv_iconst (v := -1) hx hb dX1_begin_104 (by decide) ?_
  refine tist (x := -1) hC hK hH t_q13 rfl (iIn (by decide) (by decide)) (iRg _).1 (iRg _).2 dX1_begin_105 (fun H locs hH => ?_)
  refine lv_aload_n hx hb dX1_begin_106 rfl (lv_at hl 1 rfl) ?_
  refine tgr hC hK hH flX1_37 ht_h rfl rfl dX1_begin_107 (fun q14 t_q14 => ?_)
  refine lv_iload hx hb dX1_begin_110 (lv_at hl 0 rfl) ?_
  refine lv_iconst (v := 0) hx hb dX1_begin_112 (by decide) ?_
  refine tist (x := 0) hC hK hH t_q14 rfl (iIn (by decide) (by decide)) (iRg _).1 (iRg _).2 dX1_begin_113 (fun H locs hH => ?_)
  refine lv_iinc (v := 1) (lv' := [(5, .int 1), (0, .ref h), (1, .int by_), (2, .int on), (3, .int to), (4, .int op)]) hx hb dX1_begin_114 hl (k := 0) rfl (by decide) (by decide) rfl (fun ls hl => ?_)
  refine lv_goto (tgt := 75) hx hb dX1_begin_117 (by decide) ?_
  refine lv_iload hx hb dX1_begin_75 (lv_at hl 0 rfl) ?_
  refine lv_bipush (v := 14) hx hb dX1_begin_77 (by decide) ?_
  refine jic_ge (tgt := 120) hx hb dX1_begin_79 (by decide) (fun c15 => absurd c15 (by decide)) (fun c15 => ?_)
  refine lv_aload_n hx hb dX1_begin_82 rfl (lv_at hl 1 rfl) ?_
  refine tgr hC hK hH flX1_27 ht_h rfl rfl dX1_begin_83 (fun q16 t_q16 => ?_)
  refine lv_iload hx hb dX1_begin_86 (lv_at hl 0 rfl) ?_
  refine lv_iconst (v := -1) hx hb dX1_begin_88 (by decide) ?_
  refine tist (x := -1) hC hK hH t_q16 rfl (iIn (by decide) (by decide)) (iRg _).1 (iRg _).2 dX1_begin_89 (fun H locs hH => ?_)
  refine lv_aload_n hx hb dX1_begin_90 rfl (lv_at hl 1 rfl) ?_
  refine tgr hC hK hH flX1_31 ht_h rfl rfl dX1_begin_91 (fun q17 t_q17 => ?_)
  refine lv_iload hx hb dX1_begin_94 (lv_at hl 0 rfl) ?_
  refine lv_iconst (v := 0) hx hb dX1_begin_96 (by decide) ?_
  refine tist (x := 0) hC hK hH t_q17 rfl (iIn (by decide) (by decide)) (iRg _).1 (iRg _).2 dX1_begin_97 (fun H locs hH => ?_)
  refine lv_aload_n hx hb dX1_begin_98 rfl (lv_at hl 1 rfl) ?_
  refine tgr hC hK hH flX1_34 ht_h rfl rfl dX1_begin_99 (fun q18 t_q18 => ?_)
  refine lv_iload hx hb dX1_begin_102 (lv_at hl 0 rfl) ?_
  refine lv_iconst (v := -1) hx hb dX1_begin_104 (by decide) ?_
  refine tist (x := -1) hC hK hH t_q18 rfl (iIn (by decide) (by decide)) (iRg _).1 (iRg _).2 dX1_begin_105 (fun H locs hH => ?_)
  refine lv_aload_n hx hb dX1_begin_106 rfl (lv_at hl 1 rfl) ?_
  refine tgr hC hK hH flX1_37 ht_h rfl rfl dX1_begin_107 (fun q19 t_q19 => ?_)
  refine lv_iload hx hb dX1_begin_110 (lv_at hl 0 rfl) ?_
  refine lv_iconst (v := 0) hx hb dX1_begin_112 (by decide) ?_
  refine tist (x := 0) hC hK hH t_q19 rfl (iIn (by decide) (by decide)) (iRg _).1 (iRg _).2 dX1_begin_113 (fun H locs hH => ?_)
  refine lv_iinc (v := 2) (lv' := [(5, .int 2), (0, .ref h), (1, .int by_), (2, .int on), (3, .int to), (4, .int op)]) hx hb dX1_begin_114 hl (k := 0) rfl (by decide) (by decide) rfl (fun ls hl => ?_)
  refine lv_goto (tgt := 75) hx hb dX1_begin_117 (by decide) ?_
  refine lv_iload hx hb dX1_begin_75 (lv_at hl 0 rfl) ?_
  refine lv_bipush (v := 14) hx hb dX1_begin_77 (by decide) ?_
  refine jic_ge (tgt := 120) hx hb dX1_begin_79 (by decide) (fun c20 => absurd c20 (by decide)) (fun c20 => ?_)
  refine lv_aload_n hx hb dX1_begin_82 rfl (lv_at hl 1 rfl) ?_
  refine tgr hC hK hH flX1_27 ht_h rfl rfl dX1_begin_83 (fun q21 t_q21 => ?_)
  refine lv_iload hx hb dX1_begin_86 (lv_at hl 0 rfl) ?_
  refine lv_iconst (v := -1) hx hb dX1_begin_88 (by decide) ?_
  refine tist (x := -1) hC hK hH t_q21 rfl (iIn (by decide) (by decide)) (iRg _).1 (iRg _).2 dX1_begin_89 (fun H locs hH => ?_)
  refine lv_aload_n hx hb dX1_begin_90 rfl (lv_at hl 1 rfl) ?_
  refine tgr hC hK hH flX1_31 ht_h rfl rfl dX1_begin_91 (fun q22 t_q22 => ?_)
  refine lv_iload hx hb dX1_begin_94 (lv_at hl 0 rfl) ?_
  refine lv_iconst (v := 0) hx hb dX1_begin_96 (by decide) ?_
  refine tist (x := 0) hC hK hH t_q22 rfl (iIn (by decide) (by decide)) (iRg _).1 (iRg _).2 dX1_begin_97 (fun H locs hH => ?_)
  refine lv_aload_n hx hb dX1_begin_98 rfl (lv_at hl 1 rfl) ?_
  refine tgr hC hK hH flX1_34 ht_h rfl rfl dX1_begin_99 (fun q23 t_q23 => ?_)
  refine lv_iload hx hb dX1_begin_102 (lv_at hl 0 rfl) ?_
  refine lv_iconst (v := -1) hx hb dX1_begin_104 (by decide) ?_
  refine tist (x := -1) hC hK hH t_q23 rfl (iIn (by decide) (by decide)) (iRg _).1 (iRg _).2 dX1_begin_105 (fun H locs hH => ?_)
  refine lv_aload_n hx hb dX1_begin_106 rfl (lv_at hl 1 rfl) ?_
  refine tgr hC hK hH flX1_37 ht_h rfl rfl dX1_begin_107 (fun q24 t_q24 => ?_)
  refine lv_iload hx hb dX1_begin_110 (lv_at hl 0 rfl) ?_
  refine lv_iconst (v := 0) hx hb dX1_begin_112 (by decide) ?_
  refine tist (x := 0) hC hK hH t_q24 rfl (iIn (by decide) (by decide)) (iRg _).1 (iRg _).2 dX1_begin_113 (fun H locs hH => ?_)
  refine lv_iinc (v := 3) (lv' := [(5, .int 3), (0, .ref h), (1, .int by_), (2, .int on), (3, .int to), (4, .int op)]) hx hb dX1_begin_114 hl (k := 0) rfl (by decide) (by decide) rfl (fun ls hl => ?_)
  refine lv_goto (tgt := 75) hx hb dX1_begin_117 (by decide) ?_
  refine lv_iload hx hb dX1_begin_75 (lv_at hl 0 rfl) ?_
  refine lv_bipush (v := 14) hx hb dX1_begin_77 (by decide) ?_
  refine jic_ge (tgt := 120) hx hb dX1_begin_79 (by decide) (fun c25 => absurd c25 (by decide)) (fun c25 => ?_)
  refine lv_aload_n hx hb dX1_begin_82 rfl (lv_at hl 1 rfl) ?_
  refine tgr hC hK hH flX1_27 ht_h rfl rfl dX1_begin_83 (fun q26 t_q26 => ?_)
  refine lv_iload hx hb dX1_begin_86 (lv_at hl 0 rfl) ?_
  refine lv_iconst (v := -1) hx hb dX1_begin_88 (by decide) ?_
  refine tist (x := -1) hC hK hH t_q26 rfl (iIn (by decide) (by decide)) (iRg _).1 (iRg _).2 dX1_begin_89 (fun H locs hH => ?_)
  refine lv_aload_n hx hb dX1_begin_90 rfl (lv_at hl 1 rfl) ?_
  refine tgr hC hK hH flX1_31 ht_h rfl rfl dX1_begin_91 (fun q27 t_q27 => ?_)
  refine lv_iload hx hb dX1_begin_94 (lv_at hl 0 rfl) ?_
  refine lv_iconst (v := 0) hx hb dX1_begin_96 (by decide) ?_
  refine tist (x := 0) hC hK hH t_q27 rfl (iIn (by decide) (by decide)) (iRg _).1 (iRg _).2 dX1_begin_97 (fun H locs hH => ?_)
  refine lv_aload_n hx hb dX1_begin_98 rfl (lv_at hl 1 rfl) ?_
  refine tgr hC hK hH flX1_34 ht_h rfl rfl dX1_begin_99 (fun q28 t_q28 => ?_)
  refine lv_iload hx hb dX1_begin_102 (lv_at hl 0 rfl) ?_
  refine lv_iconst (v := -1) hx hb dX1_begin_104 (by decide) ?_
  refine tist (x := -1) hC hK hH t_q28 rfl (iIn (by decide) (by decide)) (iRg _).1 (iRg _).2 dX1_begin_105 (fun H locs hH => ?_)
  refine lv_aload_n hx hb dX1_begin_106 rfl (lv_at hl 1 rfl) ?_
  refine tgr hC hK hH flX1_37 ht_h rfl rfl dX1_begin_107 (fun q29 t_q29 => ?_)
  refine lv_iload hx hb dX1_begin_110 (lv_at hl 0 rfl) ?_
  refine lv_iconst (v := 0) hx hb dX1_begin_112 (by decide) ?_
  refine tist (x := 0) hC hK hH t_q29 rfl (iIn (by decide) (by decide)) (iRg _).1 (iRg _).2 dX1_begin_113 (fun H locs hH => ?_)
  refine lv_iinc (v := 4) (lv' := [(5, .int 4), (0, .ref h), (1, .int by_), (2, .int on), (3, .int to), (4, .int op)]) hx hb dX1_begin_114 hl (k := 0) rfl (by decide) (by decide) rfl (fun ls hl => ?_)
  refine lv_goto (tgt := 75) hx hb dX1_begin_117 (by decide) ?_
  refine lv_iload hx hb dX1_begin_75 (lv_at hl 0 rfl) ?_
  refine lv_bipush (v := 14) hx hb dX1_begin_77 (by decide) ?_
  refine jic_ge (tgt := 120) hx hb dX1_begin_79 (by decide) (fun c30 => absurd c30 (by decide)) (fun c30 => ?_)
  refine lv_aload_n hx hb dX1_begin_82 rfl (lv_at hl 1 rfl) ?_
  refine tgr hC hK hH flX1_27 ht_h rfl rfl dX1_begin_83 (fun q31 t_q31 => ?_)
  refine lv_iload hx hb dX1_begin_86 (lv_at hl 0 rfl) ?_
  refine lv_iconst (v := -1) hx hb dX1_begin_88 (by decide) ?_
  refine tist (x := -1) hC hK hH t_q31 rfl (iIn (by decide) (by decide)) (iRg _).1 (iRg _).2 dX1_begin_89 (fun H locs hH => ?_)
  refine lv_aload_n hx hb dX1_begin_90 rfl (lv_at hl 1 rfl) ?_
  refine tgr hC hK hH flX1_31 ht_h rfl rfl dX1_begin_91 (fun q32 t_q32 => ?_)
  refine lv_iload hx hb dX1_begin_94 (lv_at hl 0 rfl) ?_
  refine lv_iconst (v := 0) hx hb dX1_begin_96 (by decide) ?_
  refine tist (x := 0) hC hK hH t_q32 rfl (iIn (by decide) (by decide)) (iRg _).1 (iRg _).2 dX1_begin_97 (fun H locs hH => ?_)
  refine lv_aload_n hx hb dX1_begin_98 rfl (lv_at hl 1 rfl) ?_
  refine tgr hC hK hH flX1_34 ht_h rfl rfl dX1_begin_99 (fun q33 t_q33 => ?_)
  refine lv_iload hx hb dX1_begin_102 (lv_at hl 0 rfl) ?_
  refine lv_iconst (v := -1) hx hb dX1_begin_104 (by decide) ?_
  refine tist (x := -1) hC hK hH t_q33 rfl (iIn (by decide) (by decide)) (iRg _).1 (iRg _).2 dX1_begin_105 (fun H locs hH => ?_)
  refine lv_aload_n hx hb dX1_begin_106 rfl (lv_at hl 1 rfl) ?_
  refine tgr hC hK hH flX1_37 ht_h rfl rfl dX1_begin_107 (fun q34 t_q34 => ?_)
  refine lv_iload hx hb dX1_begin_110 (lv_at hl 0 rfl) ?_
  refine lv_iconst (v := 0) hx hb dX1_begin_112 (by decide) ?_
  refine tist (x := 0) hC hK hH t_q34 rfl (iIn (by decide) (by decide)) (iRg _).1 (iRg _).2 dX1_begin_113 (fun H locs hH => ?_)
  refine lv_iinc (v := 5) (lv' := [(5, .int 5), (0, .ref h), (1, .int by_), (2, .int on), (3, .int to), (4, .int op)]) hx hb dX1_begin_114 hl (k := 0) rfl (by decide) (by decide) rfl (fun ls hl => ?_)
  refine lv_goto (tgt := 75) hx hb dX1_begin_117 (by decide) ?_
  refine lv_iload hx hb dX1_begin_75 (lv_at hl 0 rfl) ?_
  refine lv_bipush (v := 14) hx hb dX1_begin_77 (by decide) ?_
  refine jic_ge (tgt := 120) hx hb dX1_begin_79 (by decide) (fun c35 => absurd c35 (by decide)) (fun c35 => ?_)
  refine lv_aload_n hx hb dX1_begin_82 rfl (lv_at hl 1 rfl) ?_
  refine tgr hC hK hH flX1_27 ht_h rfl rfl dX1_begin_83 (fun q36 t_q36 => ?_)
  refine lv_iload hx hb dX1_begin_86 (lv_at hl 0 rfl) ?_
  refine lv_iconst (v := -1) hx hb dX1_begin_88 (by decide) ?_
  refine tist (x := -1) hC hK hH t_q36 rfl (iIn (by decide) (by decide)) (iRg _).1 (iRg _).2 dX1_begin_89 (fun H locs hH => ?_)
  refine lv_aload_n hx hb dX1_begin_90 rfl (lv_at hl 1 rfl) ?_
  refine tgr hC hK hH flX1_31 ht_h rfl rfl dX1_begin_91 (fun q37 t_q37 => ?_)
  refine lv_iload hx hb dX1_begin_94 (lv_at hl 0 rfl) ?_
  refine lv_iconst (v := 0) hx hb dX1_begin_96 (by decide) ?_
  refine tist (x := 0) hC hK hH t_q37 rfl (iIn (by decide) (by decide)) (iRg _).1 (iRg _).2 dX1_begin_97 (fun H locs hH => ?_)
  refine lv_aload_n hx hb dX1_begin_98 rfl (lv_at hl 1 rfl) ?_
  refine tgr hC hK hH flX1_34 ht_h rfl rfl dX1_begin_99 (fun q38 t_q38 => ?_)
  refine lv_iload hx hb dX1_begin_102 (lv_at hl 0 rfl) ?_
  refine lv_iconst (v := -1) hx hb dX1_begin_104 (by decide) ?_
  refine tist (x := -1) hC hK hH t_q38 rfl (iIn (by decide) (by decide)) (iRg _).1 (iRg _).2 dX1_begin_105 (fun H locs hH => ?_)
  refine lv_aload_n hx hb dX1_begin_106 rfl (lv_at hl 1 rfl) ?_
  refine tgr hC hK hH flX1_37 ht_h rfl rfl dX1_begin_107 (fun q39 t_q39 => ?_)
  refine lv_iload hx hb dX1_begin_110 (lv_at hl 0 rfl) ?_
  refine lv_iconst (v := 0) hx hb dX1_begin_112 (by decide) ?_
  refine tist (x := 0) hC hK hH t_q39 rfl (iIn (by decide) (by decide)) (iRg _).1 (iRg _).2 dX1_begin_113 (fun H locs hH => ?_)
  refine lv_iinc (v := 6) (lv' := [(5, .int 6), (0, .ref h), (1, .int by_), (2, .int on), (3, .int to), (4, .int op)]) hx hb dX1_begin_114 hl (k := 0) rfl (by decide) (by decide) rfl (fun ls hl => ?_)
  refine lv_goto (tgt := 75) hx hb dX1_begin_117 (by decide) ?_
  refine lv_iload hx hb dX1_begin_75 (lv_at hl 0 rfl) ?_
  refine lv_bipush (v := 14) hx hb dX1_begin_77 (by decide) ?_
  refine jic_ge (tgt := 120) hx hb dX1_begin_79 (by decide) (fun c40 => absurd c40 (by decide)) (fun c40 => ?_)
  refine lv_aload_n hx hb dX1_begin_82 rfl (lv_at hl 1 rfl) ?_
  refine tgr hC hK hH flX1_27 ht_h rfl rfl dX1_begin_83 (fun q41 t_q41 => ?_)
  refine lv_iload hx hb dX1_begin_86 (lv_at hl 0 rfl) ?_
  refine lv_iconst (v := -1) hx hb dX1_begin_88 (by decide) ?_
  refine tist (x := -1) hC hK hH t_q41 rfl (iIn (by decide) (by decide)) (iRg _).1 (iRg _).2 dX1_begin_89 (fun H locs hH => ?_)
  refine lv_aload_n hx hb dX1_begin_90 rfl (lv_at hl 1 rfl) ?_
  refine tgr hC hK hH flX1_31 ht_h rfl rfl dX1_begin_91 (fun q42 t_q42 => ?_)
  refine lv_iload hx hb dX1_begin_94 (lv_at hl 0 rfl) ?_
  refine lv_iconst (v := 0) hx hb dX1_begin_96 (by decide) ?_
  refine tist (x := 0) hC hK hH t_q42 rfl (iIn (by decide) (by decide)) (iRg _).1 (iRg _).2 dX1_begin_97 (fun H locs hH => ?_)
  refine lv_aload_n hx hb dX1_begin_98 rfl (lv_at hl 1 rfl) ?_
  refine tgr hC hK hH flX1_34 ht_h rfl rfl dX1_begin_99 (fun q43 t_q43 => ?_)
  refine lv_iload hx hb dX1_begin_102 (lv_at hl 0 rfl) ?_
  refine lv_iconst (v := -1) hx hb dX1_begin_104 (by decide) ?_
  refine tist (x := -1) hC hK hH t_q43 rfl (iIn (by decide) (by decide)) (iRg _).1 (iRg _).2 dX1_begin_105 (fun H locs hH => ?_)
  refine lv_aload_n hx hb dX1_begin_106 rfl (lv_at hl 1 rfl) ?_
  refine tgr hC hK hH flX1_37 ht_h rfl rfl dX1_begin_107 (fun q44 t_q44 => ?_)
  refine lv_iload hx hb dX1_begin_110 (lv_at hl 0 rfl) ?_
  refine lv_iconst (v := 0) hx hb dX1_begin_112 (by decide) ?_
  refine tist (x := 0) hC hK hH t_q44 rfl (iIn (by decide) (by decide)) (iRg _).1 (iRg _).2 dX1_begin_113 (fun H locs hH => ?_)
  refine lv_iinc (v := 7) (lv' := [(5, .int 7), (0, .ref h), (1, .int by_), (2, .int on), (3, .int to), (4, .int op)]) hx hb dX1_begin_114 hl (k := 0) rfl (by decide) (by decide) rfl (fun ls hl => ?_)
  refine lv_goto (tgt := 75) hx hb dX1_begin_117 (by decide) ?_
  refine lv_iload hx hb dX1_begin_75 (lv_at hl 0 rfl) ?_
  refine lv_bipush (v := 14) hx hb dX1_begin_77 (by decide) ?_
  refine jic_ge (tgt := 120) hx hb dX1_begin_79 (by decide) (fun c45 => absurd c45 (by decide)) (fun c45 => ?_)
  refine lv_aload_n hx hb dX1_begin_82 rfl (lv_at hl 1 rfl) ?_
  refine tgr hC hK hH flX1_27 ht_h rfl rfl dX1_begin_83 (fun q46 t_q46 => ?_)
  refine lv_iload hx hb dX1_begin_86 (lv_at hl 0 rfl) ?_
  refine lv_iconst (v := -1) hx hb dX1_begin_88 (by decide) ?_
  refine tist (x := -1) hC hK hH t_q46 rfl (iIn (by decide) (by decide)) (iRg _).1 (iRg _).2 dX1_begin_89 (fun H locs hH => ?_)
  refine lv_aload_n hx hb dX1_begin_90 rfl (lv_at hl 1 rfl) ?_
  refine tgr hC hK hH flX1_31 ht_h rfl rfl dX1_begin_91 (fun q47 t_q47 => ?_)
  refine lv_iload hx hb dX1_begin_94 (lv_at hl 0 rfl) ?_
  refine lv_iconst (v := 0) hx hb dX1_begin_96 (by decide) ?_
  refine tist (x := 0) hC hK hH t_q47 rfl (iIn (by decide) (by decide)) (iRg _).1 (iRg _).2 dX1_begin_97 (fun H locs hH => ?_)
  refine lv_aload_n hx hb dX1_begin_98 rfl (lv_at hl 1 rfl) ?_
  refine tgr hC hK hH flX1_34 ht_h rfl rfl dX1_begin_99 (fun q48 t_q48 => ?_)
  refine lv_iload hx hb dX1_begin_102 (lv_at hl 0 rfl) ?_
  refine lv_iconst (v := -1) hx hb dX1_begin_104 (by decide) ?_
  refine tist (x := -1) hC hK hH t_q48 rfl (iIn (by decide) (by decide)) (iRg _).1 (iRg _).2 dX1_begin_105 (fun H locs hH => ?_)
  refine lv_aload_n hx hb dX1_begin_106 rfl (lv_at hl 1 rfl) ?_
  refine tgr hC hK hH flX1_37 ht_h rfl rfl dX1_begin_107 (fun q49 t_q49 => ?_)
  refine lv_iload hx hb dX1_begin_110 (lv_at hl 0 rfl) ?_
  refine lv_iconst (v := 0) hx hb dX1_begin_112 (by decide) ?_
  refine tist (x := 0) hC hK hH t_q49 rfl (iIn (by decide) (by decide)) (iRg _).1 (iRg _).2 dX1_begin_113 (fun H locs hH => ?_)
  refine lv_iinc (v := 8) (lv' := [(5, .int 8), (0, .ref h), (1, .int by_), (2, .int on), (3, .int to), (4, .int op)]) hx hb dX1_begin_114 hl (k := 0) rfl (by decide) (by decide) rfl (fun ls hl => ?_)
  refine lv_goto (tgt := 75) hx hb dX1_begin_117 (by decide) ?_
  refine lv_iload hx hb dX1_begin_75 (lv_at hl 0 rfl) ?_
  refine lv_bipush (v := 14) hx hb dX1_begin_77 (by decide) ?_
  refine jic_ge (tgt := 120) hx hb dX1_begin_79 (by decide) (fun c50 => absurd c50 (by decide)) (fun c50 => ?_)
  refine lv_aload_n hx hb dX1_begin_82 rfl (lv_at hl 1 rfl) ?_
  refine tgr hC hK hH flX1_27 ht_h rfl rfl dX1_begin_83 (fun q51 t_q51 => ?_)
  refine lv_iload hx hb dX1_begin_86 (lv_at hl 0 rfl) ?_
  refine lv_iconst (v := -1) hx hb dX1_begin_88 (by decide) ?_
  refine tist (x := -1) hC hK hH t_q51 rfl (iIn (by decide) (by decide)) (iRg _).1 (iRg _).2 dX1_begin_89 (fun H locs hH => ?_)
  refine lv_aload_n hx hb dX1_begin_90 rfl (lv_at hl 1 rfl) ?_
  refine tgr hC hK hH flX1_31 ht_h rfl rfl dX1_begin_91 (fun q52 t_q52 => ?_)
  refine lv_iload hx hb dX1_begin_94 (lv_at hl 0 rfl) ?_
  refine lv_iconst (v := 0) hx hb dX1_begin_96 (by decide) ?_
  refine tist (x := 0) hC hK hH t_q52 rfl (iIn (by decide) (by decide)) (iRg _).1 (iRg _).2 dX1_begin_97 (fun H locs hH => ?_)
  refine lv_aload_n hx hb dX1_begin_98 rfl (lv_at hl 1 rfl) ?_
  refine tgr hC hK hH flX1_34 ht_h rfl rfl dX1_begin_99 (fun q53 t_q53 => ?_)
  refine lv_iload hx hb dX1_begin_102 (lv_at hl 0 rfl) ?_
  refine lv_iconst (v := -1) hx hb dX1_begin_104 (by decide) ?_
  refine tist (x := -1) hC hK hH t_q53 rfl (iIn (by decide) (by decide)) (iRg _).1 (iRg _).2 dX1_begin_105 (fun H locs hH => ?_)
  refine lv_aload_n hx hb dX1_begin_106 rfl (lv_at hl 1 rfl) ?_
  refine tgr hC hK hH flX1_37 ht_h rfl rfl dX1_begin_107 (fun q54 t_q54 => ?_)
  refine lv_iload hx hb dX1_begin_110 (lv_at hl 0 rfl) ?_
  refine lv_iconst (v := 0) hx hb dX1_begin_112 (by decide) ?_
  refine tist (x := 0) hC hK hH t_q54 rfl (iIn (by decide) (by decide)) (iRg _).1 (iRg _).2 dX1_begin_113 (fun H locs hH => ?_)
  refine lv_iinc (v := 9) (lv' := [(5, .int 9), (0, .ref h), (1, .int by_), (2, .int on), (3, .int to), (4, .int op)]) hx hb dX1_begin_114 hl (k := 0) rfl (by decide) (by decide) rfl (fun ls hl => ?_)
  refine lv_goto (tgt := 75) hx hb dX1_begin_117 (by decide) ?_
  refine lv_iload hx hb dX1_begin_75 (lv_at hl 0 rfl) ?_
  refine lv_bipush (v := 14) hx hb dX1_begin_77 (by decide) ?_
  refine jic_ge (tgt := 120) hx hb dX1_begin_79 (by decide) (fun c55 => absurd c55 (by decide)) (fun c55 => ?_)
  refine lv_aload_n hx hb dX1_begin_82 rfl (lv_at hl 1 rfl) ?_
  refine tgr hC hK hH flX1_27 ht_h rfl rfl dX1_begin_83 (fun q56 t_q56 => ?_)
  refine lv_iload hx hb dX1_begin_86 (lv_at hl 0 rfl) ?_
  refine lv_iconst (v := -1) hx hb dX1_begin_88 (by decide) ?_
  refine tist (x := -1) hC hK hH t_q56 rfl (iIn (by decide) (by decide)) (iRg _).1 (iRg _).2 dX1_begin_89 (fun H locs hH => ?_)
  refine lv_aload_n hx hb dX1_begin_90 rfl (lv_at hl 1 rfl) ?_
  refine tgr hC hK hH flX1_31 ht_h rfl rfl dX1_begin_91 (fun q57 t_q57 => ?_)
  refine lv_iload hx hb dX1_begin_94 (lv_at hl 0 rfl) ?_
  refine lv_iconst (v := 0) hx hb dX1_begin_96 (by decide) ?_
  refine tist (x := 0) hC hK hH t_q57 rfl (iIn (by decide) (by decide)) (iRg _).1 (iRg _).2 dX1_begin_97 (fun H locs hH => ?_)
  refine lv_aload_n hx hb dX1_begin_98 rfl (lv_at hl 1 rfl) ?_
  refine tgr hC hK hH flX1_34 ht_h rfl rfl dX1_begin_99 (fun q58 t_q58 => ?_)
  refine lv_iload hx hb dX1_begin_102 (lv_at hl 0 rfl) ?_
  refine lv_iconst (v := -1) hx hb dX1_begin_104 (by decide) ?_
  refine tist (x := -1) hC hK hH t_q58 rfl (iIn (by decide) (by decide)) (iRg _).1 (iRg _).2 dX1_begin_105 (fun H locs hH => ?_)
  refine lv_aload_n hx hb dX1_begin_106 rfl (lv_at hl 1 rfl) ?_
  refine tgr hC hK hH flX1_37 ht_h rfl rfl dX1_begin_107 (fun q59 t_q59 => ?_)
  refine lv_iload hx hb dX1_begin_110 (lv_at hl 0 rfl) ?_
  refine lv_iconst (v := 0) hx hb dX1_begin_112 (by decide) ?_
  refine tist (x := 0) hC hK hH t_q59 rfl (iIn (by decide) (by decide)) (iRg _).1 (iRg _).2 dX1_begin_113 (fun H locs hH => ?_)
  refine lv_iinc (v := 10) (lv' := [(5, .int 10), (0, .ref h), (1, .int by_), (2, .int on), (3, .int to), (4, .int op)]) hx hb dX1_begin_114 hl (k := 0) rfl (by decide) (by decide) rfl (fun ls hl => ?_)
  refine lv_goto (tgt := 75) hx hb dX1_begin_117 (by decide) ?_
  refine lv_iload hx hb dX1_begin_75 (lv_at hl 0 rfl) ?_
  refine lv_bipush (v := 14) hx hb dX1_begin_77 (by decide) ?_
  refine jic_ge (tgt := 120) hx hb dX1_begin_79 (by decide) (fun c60 => absurd c60 (by decide)) (fun c60 => ?_)
  refine lv_aload_n hx hb dX1_begin_82 rfl (lv_at hl 1 rfl) ?_
  refine tgr hC hK hH flX1_27 ht_h rfl rfl dX1_begin_83 (fun q61 t_q61 => ?_)
  refine lv_iload hx hb dX1_begin_86 (lv_at hl 0 rfl) ?_
  refine lv_iconst (v := -1) hx hb dX1_begin_88 (by decide) ?_
  refine tist (x := -1) hC hK hH t_q61 rfl (iIn (by decide) (by decide)) (iRg _).1 (iRg _).2 dX1_begin_89 (fun H locs hH => ?_)
  refine lv_aload_n hx hb dX1_begin_90 rfl (lv_at hl 1 rfl) ?_
  refine tgr hC hK hH flX1_31 ht_h rfl rfl dX1_begin_91 (fun q62 t_q62 => ?_)
  refine lv_iload hx hb dX1_begin_94 (lv_at hl 0 rfl) ?_
  refine lv_iconst (v := 0) hx hb dX1_begin_96 (by decide) ?_
  refine tist (x := 0) hC hK hH t_q62 rfl (iIn (by decide) (by decide)) (iRg _).1 (iRg _).2 dX1_begin_97 (fun H locs hH => ?_)
  refine lv_aload_n hx hb dX1_begin_98 rfl (lv_at hl 1 rfl) ?_
  refine tgr hC hK hH flX1_34 ht_h rfl rfl dX1_begin_99 (fun q63 t_q63 => ?_)
  refine lv_iload hx hb dX1_begin_102 (lv_at hl 0 rfl) ?_
  refine lv_iconst (v := -1) hx hb dX1_begin_104 (by decide) ?_
  refine tist (x := -1) hC hK hH t_q63 rfl (iIn (by decide) (by decide)) (iRg _).1 (iRg _).2 dX1_begin_105 (fun H locs hH => ?_)
  refine lv_aload_n hx hb dX1_begin_106 rfl (lv_at hl 1 rfl) ?_
  refine tgr hC hK hH flX1_37 ht_h rfl rfl dX1_begin_107 (fun q64 t_q64 => ?_)
  refine lv_iload hx hb dX1_begin_110 (lv_at hl 0 rfl) ?_
  refine lv_iconst (v := 0) hx hb dX1_begin_112 (by decide) ?_
  refine tist (x := 0) hC hK hH t_q64 rfl (iIn (by decide) (by decide)) (iRg _).1 (iRg _).2 dX1_begin_113 (fun H locs hH => ?_)
  refine lv_iinc (v := 11) (lv' := [(5, .int 11), (0, .ref h), (1, .int by_), (2, .int on), (3, .int to), (4, .int op)]) hx hb dX1_begin_114 hl (k := 0) rfl (by decide) (by decide) rfl (fun ls hl => ?_)
  refine lv_goto (tgt := 75) hx hb dX1_begin_117 (by decide) ?_
  refine lv_iload hx hb dX1_begin_75 (lv_at hl 0 rfl) ?_
  refine lv_bipush (v := 14) hx hb dX1_begin_77 (by decide) ?_
  refine jic_ge (tgt := 120) hx hb dX1_begin_79 (by decide) (fun c65 => absurd c65 (by decide)) (fun c65 => ?_)
  refine lv_aload_n hx hb dX1_begin_82 rfl (lv_at hl 1 rfl) ?_
  refine tgr hC hK hH flX1_27 ht_h rfl rfl dX1_begin_83 (fun q66 t_q66 => ?_)
  refine lv_iload hx hb dX1_begin_86 (lv_at hl 0 rfl) ?_
  refine lv_iconst (v := -1) hx hb dX1_begin_88 (by decide) ?_
  refine tist (x := -1) hC hK hH t_q66 rfl (iIn (by decide) (by decide)) (iRg _).1 (iRg _).2 dX1_begin_89 (fun H locs hH => ?_)
  refine lv_aload_n hx hb dX1_begin_90 rfl (lv_at hl 1 rfl) ?_
  refine tgr hC hK hH flX1_31 ht_h rfl rfl dX1_begin_91 (fun q67 t_q67 => ?_)
  refine lv_iload hx hb dX1_begin_94 (lv_at hl 0 rfl) ?_
  refine lv_iconst (v := 0) hx hb dX1_begin_96 (by decide) ?_
  refine tist (x := 0) hC hK hH t_q67 rfl (iIn (by decide) (by decide)) (iRg _).1 (iRg _).2 dX1_begin_97 (fun H locs hH => ?_)
  refine lv_aload_n hx hb dX1_begin_98 rfl (lv_at hl 1 rfl) ?_
  refine tgr hC hK hH flX1_34 ht_h rfl rfl dX1_begin_99 (fun q68 t_q68 => ?_)
  refine lv_iload hx hb dX1_begin_102 (lv_at hl 0 rfl) ?_
  refine lv_iconst (v := -1) hx hb dX1_begin_104 (by decide) ?_
  refine tist (x := -1) hC hK hH t_q68 rfl (iIn (by decide) (by decide)) (iRg _).1 (iRg _).2 dX1_begin_105 (fun H locs hH => ?_)
  refine lv_aload_n hx hb dX1_begin_106 rfl (lv_at hl 1 rfl) ?_
  refine tgr hC hK hH flX1_37 ht_h rfl rfl dX1_begin_107 (fun q69 t_q69 => ?_)
  refine lv_iload hx hb dX1_begin_110 (lv_at hl 0 rfl) ?_
  refine lv_iconst (v := 0) hx hb dX1_begin_112 (by decide) ?_
  refine tist (x := 0) hC hK hH t_q69 rfl (iIn (by decide) (by decide)) (iRg _).1 (iRg _).2 dX1_begin_113 (fun H locs hH => ?_)
  refine lv_iinc (v := 12) (lv' := [(5, .int 12), (0, .ref h), (1, .int by_), (2, .int on), (3, .int to), (4, .int op)]) hx hb dX1_begin_114 hl (k := 0) rfl (by decide) (by decide) rfl (fun ls hl => ?_)
  refine lv_goto (tgt := 75) hx hb dX1_begin_117 (by decide) ?_
  refine lv_iload hx hb dX1_begin_75 (lv_at hl 0 rfl) ?_
  refine lv_bipush (v := 14) hx hb dX1_begin_77 (by decide) ?_
  refine jic_ge (tgt := 120) hx hb dX1_begin_79 (by decide) (fun c70 => absurd c70 (by decide)) (fun c70 => ?_)
  refine lv_aload_n hx hb dX1_begin_82 rfl (lv_at hl 1 rfl) ?_
  refine tgr hC hK hH flX1_27 ht_h rfl rfl dX1_begin_83 (fun q71 t_q71 => ?_)
  refine lv_iload hx hb dX1_begin_86 (lv_at hl 0 rfl) ?_
  refine lv_iconst (v := -1) hx hb dX1_begin_88 (by decide) ?_
  refine tist (x := -1) hC hK hH t_q71 rfl (iIn (by decide) (by decide)) (iRg _).1 (iRg _).2 dX1_begin_89 (fun H locs hH => ?_)
  refine lv_aload_n hx hb dX1_begin_90 rfl (lv_at hl 1 rfl) ?_
  refine tgr hC hK hH flX1_31 ht_h rfl rfl dX1_begin_91 (fun q72 t_q72 => ?_)
  refine lv_iload hx hb dX1_begin_94 (lv_at hl 0 rfl) ?_
  refine lv_iconst (v := 0) hx hb dX1_begin_96 (by decide) ?_
  refine tist (x := 0) hC hK hH t_q72 rfl (iIn (by decide) (by decide)) (iRg _).1 (iRg _).2 dX1_begin_97 (fun H locs hH => ?_)
  refine lv_aload_n hx hb dX1_begin_98 rfl (lv_at hl 1 rfl) ?_
  refine tgr hC hK hH flX1_34 ht_h rfl rfl dX1_begin_99 (fun q73 t_q73 => ?_)
  refine lv_iload hx hb dX1_begin_102 (lv_at hl 0 rfl) ?_
  refine lv_iconst (v := -1) hx hb dX1_begin_104 (by decide) ?_
  refine tist (x := -1) hC hK hH t_q73 rfl (iIn (by decide) (by decide)) (iRg _).1 (iRg _).2 dX1_begin_105 (fun H locs hH => ?_)
  refine lv_aload_n hx hb dX1_begin_106 rfl (lv_at hl 1 rfl) ?_
  refine tgr hC hK hH flX1_37 ht_h rfl rfl dX1_begin_107 (fun q74 t_q74 => ?_)
  refine lv_iload hx hb dX1_begin_110 (lv_at hl 0 rfl) ?_
  refine lv_iconst (v := 0) hx hb dX1_begin_112 (by decide) ?_
  refine tist (x := 0) hC hK hH t_q74 rfl (iIn (by decide) (by decide)) (iRg _).1 (iRg _).2 dX1_begin_113 (fun H locs hH => ?_)
  refine lv_iinc (v := 13) (lv' := [(5, .int 13), (0, .ref h), (1, .int by_), (2, .int on), (3, .int to), (4, .int op)]) hx hb dX1_begin_114 hl (k := 0) rfl (by decide) (by decide) rfl (fun ls hl => ?_)
  refine lv_goto (tgt := 75) hx hb dX1_begin_117 (by decide) ?_
  refine lv_iload hx hb dX1_begin_75 (lv_at hl 0 rfl) ?_
  refine lv_bipush (v := 14) hx hb dX1_begin_77 (by decide) ?_
  refine jic_ge (tgt := 120) hx hb dX1_begin_79 (by decide) (fun c75 => absurd c75 (by decide)) (fun c75 => ?_)
  refine lv_aload_n hx hb dX1_begin_82 rfl (lv_at hl 1 rfl) ?_
  refine tgr hC hK hH flX1_27 ht_h rfl rfl dX1_begin_83 (fun q76 t_q76 => ?_)
  refine lv_iload hx hb dX1_begin_86 (lv_at hl 0 rfl) ?_
  refine lv_iconst (v := -1) hx hb dX1_begin_88 (by decide) ?_
  refine tist (x := -1) hC hK hH t_q76 rfl (iIn (by decide) (by decide)) (iRg _).1 (iRg _).2 dX1_begin_89 (fun H locs hH => ?_)
  refine lv_aload_n hx hb dX1_begin_90 rfl (lv_at hl 1 rfl) ?_
  refine tgr hC hK hH flX1_31 ht_h rfl rfl dX1_begin_91 (fun q77 t_q77 => ?_)
  refine lv_iload hx hb dX1_begin_94 (lv_at hl 0 rfl) ?_
  refine lv_iconst (v := 0) hx hb dX1_begin_96 (by decide) ?_
  refine tist (x := 0) hC hK hH t_q77 rfl (iIn (by decide) (by decide)) (iRg _).1 (iRg _).2 dX1_begin_97 (fun H locs hH => ?_)
  refine lv_aload_n hx hb dX1_begin_98 rfl (lv_at hl 1 rfl) ?_
  refine tgr hC hK hH flX1_34 ht_h rfl rfl dX1_begin_99 (fun q78 t_q78 => ?_)
  refine lv_iload hx hb dX1_begin_102 (lv_at hl 0 rfl) ?_
  refine lv_iconst (v := -1) hx hb dX1_begin_104 (by decide) ?_
  refine tist (x := -1) hC hK hH t_q78 rfl (iIn (by decide) (by decide)) (iRg _).1 (iRg _).2 dX1_begin_105 (fun H locs hH => ?_)
  refine lv_aload_n hx hb dX1_begin_106 rfl (lv_at hl 1 rfl) ?_
  refine tgr hC hK hH flX1_37 ht_h rfl rfl dX1_begin_107 (fun q79 t_q79 => ?_)
  refine lv_iload hx hb dX1_begin_110 (lv_at hl 0 rfl) ?_
  refine lv_iconst (v := 0) hx hb dX1_begin_112 (by decide) ?_
  refine tist (x := 0) hC hK hH t_q79 rfl (iIn (by decide) (by decide)) (iRg _).1 (iRg _).2 dX1_begin_113 (fun H locs hH => ?_)
  refine lv_iinc (v := 14) (lv' := [(5, .int 14), (0, .ref h), (1, .int by_), (2, .int on), (3, .int to), (4, .int op)]) hx hb dX1_begin_114 hl (k := 0) rfl (by decide) (by decide) rfl (fun ls hl => ?_)
  refine lv_goto (tgt := 75) hx hb dX1_begin_117 (by decide) ?_
  refine lv_iload hx hb dX1_begin_75 (lv_at hl 0 rfl) ?_
  refine lv_bipush (v := 14) hx hb dX1_begin_77 (by decide) ?_
  refine jic_ge (tgt := 120) hx hb dX1_begin_79 (by decide) (fun c80 => ?_) (fun c80 => absurd c80 (by decide))
  exact ret_v hC hr hlk hK hH (⟨trivial, rfl, rfl⟩) (Nat.le_of_ble_eq_true rfl) (Nat.le_of_ble_eq_true rfl) dX1_begin_120
end
section
theorem dX8_drawOne_0 : decode cX8_drawOne 0 = .ok (.aload_n 0, 1) := by decide +kernel
theorem dX8_drawOne_1 : decode cX8_drawOne 1 = .ok (.getfield 36, 3) := by decide +kernel
theorem dX8_drawOne_4 : decode cX8_drawOne 4 = .ok (.iconst 4, 1) := by decide +kernel
theorem dX8_drawOne_5 : decode cX8_drawOne 5 = .ok (.if_icmp .ge 24, 3) := by decide +kernel
theorem dX8_drawOne_8 : decode cX8_drawOne 8 = .ok (.iload_n 1, 1) := by decide +kernel
theorem dX8_drawOne_9 : decode cX8_drawOne 9 = .ok (.invokestatic 94, 3) := by decide +kernel
theorem dX8_drawOne_12 : decode cX8_drawOne 12 = .ok (.ifCond .eq 17, 3) := by decide +kernel
theorem dX8_drawOne_15 : decode cX8_drawOne 15 = .ok (.iload_n 2, 1) := by decide +kernel
theorem dX8_drawOne_16 : decode cX8_drawOne 16 = .ok (.invokestatic 94, 3) := by decide +kernel
theorem dX8_drawOne_19 : decode cX8_drawOne 19 = .ok (.ifCond .eq 10, 3) := by decide +kernel
theorem dX8_drawOne_22 : decode cX8_drawOne 22 = .ok (.iload_n 3, 1) := by decide +kernel
theorem dX8_drawOne_23 : decode cX8_drawOne 23 = .ok (.invokestatic 94, 3) := by decide +kernel
theorem dX8_drawOne_26 : decode cX8_drawOne 26 = .ok (.ifCond .ne 6, 3) := by decide +kernel
theorem dX8_drawOne_29 : decode cX8_drawOne 29 = .ok (.bipush 30, 2) := by decide +kernel
theorem dX8_drawOne_31 : decode cX8_drawOne 31 = .ok (.ireturn, 1) := by decide +kernel
theorem dX8_drawOne_32 : decode cX8_drawOne 32 = .ok (.iload 4, 2) := by decide +kernel
theorem dX8_drawOne_34 : decode cX8_drawOne 34 = .ok (.iconst 1, 1) := by decide +kernel
theorem dX8_drawOne_35 : decode cX8_drawOne 35 = .ok (.if_icmp .lt 23, 3) := by decide +kernel
theorem dX8_drawOne_38 : decode cX8_drawOne 38 = .ok (.iload 4, 2) := by decide +kernel
theorem dX8_drawOne_40 : decode cX8_drawOne 40 = .ok (.sipush 999, 3) := by decide +kernel
theorem dX8_drawOne_43 : decode cX8_drawOne 43 = .ok (.if_icmp .gt 15, 3) := by decide +kernel
theorem dX8_drawOne_46 : decode cX8_drawOne 46 = .ok (.iload 5, 2) := by decide +kernel
theorem dX8_drawOne_48 : decode cX8_drawOne 48 = .ok (.ifCond .lt 10, 3) := by decide +kernel
theorem dX8_drawOne_51 : decode cX8_drawOne 51 = .ok (.iload 5, 2) := by decide +kernel
theorem dX8_drawOne_53 : decode cX8_drawOne 53 = .ok (.bipush 99, 2) := by decide +kernel
theorem dX8_drawOne_55 : decode cX8_drawOne 55 = .ok (.if_icmp .le 6, 3) := by decide +kernel
theorem dX8_drawOne_58 : decode cX8_drawOne 58 = .ok (.bipush 30, 2) := by decide +kernel
theorem dX8_drawOne_60 : decode cX8_drawOne 60 = .ok (.ireturn, 1) := by decide +kernel
theorem dX8_drawOne_61 : decode cX8_drawOne 61 = .ok (.aload_n 0, 1) := by decide +kernel
theorem dX8_drawOne_62 : decode cX8_drawOne 62 = .ok (.getfield 17, 3) := by decide +kernel
theorem dX8_drawOne_65 : decode cX8_drawOne 65 = .ok (.aload_n 0, 1) := by decide +kernel
theorem dX8_drawOne_66 : decode cX8_drawOne 66 = .ok (.getfield 36, 3) := by decide +kernel
theorem dX8_drawOne_69 : decode cX8_drawOne 69 = .ok (.aaload, 1) := by decide +kernel
theorem dX8_drawOne_70 : decode cX8_drawOne 70 = .ok (.astore 7, 2) := by decide +kernel
theorem dX8_drawOne_72 : decode cX8_drawOne 72 = .ok (.aload 7, 2) := by decide +kernel
theorem dX8_drawOne_74 : decode cX8_drawOne 74 = .ok (.iload_n 1, 1) := by decide +kernel
theorem dX8_drawOne_75 : decode cX8_drawOne 75 = .ok (.iload_n 2, 1) := by decide +kernel
theorem dX8_drawOne_76 : decode cX8_drawOne 76 = .ok (.iload_n 3, 1) := by decide +kernel
theorem dX8_drawOne_77 : decode cX8_drawOne 77 = .ok (.iload 6, 2) := by decide +kernel
theorem dX8_drawOne_79 : decode cX8_drawOne 79 = .ok (.invokevirtual 97, 3) := by decide +kernel
theorem dX8_drawOne_82 : decode cX8_drawOne 82 = .ok (.aload 7, 2) := by decide +kernel
theorem dX8_drawOne_84 : decode cX8_drawOne 84 = .ok (.iload 4, 2) := by decide +kernel
theorem dX8_drawOne_86 : decode cX8_drawOne 86 = .ok (.putfield 100, 3) := by decide +kernel
theorem dX8_drawOne_89 : decode cX8_drawOne 89 = .ok (.aload 7, 2) := by decide +kernel
theorem dX8_drawOne_91 : decode cX8_drawOne 91 = .ok (.aload_n 0, 1) := by decide +kernel
theorem dX8_drawOne_92 : decode cX8_drawOne 92 = .ok (.getfield 29, 3) := by decide +kernel
theorem dX8_drawOne_95 : decode cX8_drawOne 95 = .ok (.iload 5, 2) := by decide +kernel
theorem dX8_drawOne_97 : decode cX8_drawOne 97 = .ok (.iadd, 1) := by decide +kernel
theorem dX8_drawOne_98 : decode cX8_drawOne 98 = .ok (.putfield 103, 3) := by decide +kernel
theorem dX8_drawOne_101 : decode cX8_drawOne 101 = .ok (.aload_n 0, 1) := by decide +kernel
theorem dX8_drawOne_102 : decode cX8_drawOne 102 = .ok (.dup, 1) := by decide +kernel
theorem dX8_drawOne_103 : decode cX8_drawOne 103 = .ok (.getfield 36, 3) := by decide +kernel
theorem dX8_drawOne_106 : decode cX8_drawOne 106 = .ok (.iconst 1, 1) := by decide +kernel
theorem dX8_drawOne_107 : decode cX8_drawOne 107 = .ok (.iadd, 1) := by decide +kernel
theorem dX8_drawOne_108 : decode cX8_drawOne 108 = .ok (.putfield 36, 3) := by decide +kernel
theorem dX8_drawOne_111 : decode cX8_drawOne 111 = .ok (.iconst 0, 1) := by decide +kernel
theorem dX8_drawOne_112 : decode cX8_drawOne 112 = .ok (.ireturn, 1) := by decide +kernel
theorem dX9_draw_0 : decode cX9_draw 0 = .ok (.iload_n 3, 1) := by decide +kernel
theorem dX9_draw_1 : decode cX9_draw 1 = .ok (.bipush 10, 2) := by decide +kernel
theorem dX9_draw_3 : decode cX9_draw 3 = .ok (.if_icmp .lt 7, 3) := by decide +kernel
theorem dX9_draw_6 : decode cX9_draw 6 = .ok (.iconst 1, 1) := by decide +kernel
theorem dX9_draw_7 : decode cX9_draw 7 = .ok (.goto 4, 3) := by decide +kernel
theorem dX9_draw_10 : decode cX9_draw 10 = .ok (.iconst 0, 1) := by decide +kernel
theorem dX9_draw_11 : decode cX9_draw 11 = .ok (.istore 6, 2) := by decide +kernel
theorem dX9_draw_13 : decode cX9_draw 13 = .ok (.aload_n 0, 1) := by decide +kernel
theorem dX9_draw_14 : decode cX9_draw 14 = .ok (.getfield 12, 3) := by decide +kernel
theorem dX9_draw_17 : decode cX9_draw 17 = .ok (.aload_n 0, 1) := by decide +kernel
theorem dX9_draw_18 : decode cX9_draw 18 = .ok (.getfield 12, 3) := by decide +kernel
theorem dX9_draw_21 : decode cX9_draw 21 = .ok (.iload_n 1, 1) := by decide +kernel
theorem dX9_draw_22 : decode cX9_draw 22 = .ok (.iload_n 2, 1) := by decide +kernel
theorem dX9_draw_23 : decode cX9_draw 23 = .ok (.iload 6, 2) := by decide +kernel
theorem dX9_draw_25 : decode cX9_draw 25 = .ok (.ifCond .eq 10, 3) := by decide +kernel
theorem dX9_draw_28 : decode cX9_draw 28 = .ok (.iload_n 3, 1) := by decide +kernel
theorem dX9_draw_29 : decode cX9_draw 29 = .ok (.bipush 10, 2) := by decide +kernel
theorem dX9_draw_31 : decode cX9_draw 31 = .ok (.isub, 1) := by decide +kernel
theorem dX9_draw_32 : decode cX9_draw 32 = .ok (.goto 4, 3) := by decide +kernel
theorem dX9_draw_35 : decode cX9_draw 35 = .ok (.iload_n 3, 1) := by decide +kernel
theorem dX9_draw_36 : decode cX9_draw 36 = .ok (.iload 4, 2) := by decide +kernel
theorem dX9_draw_38 : decode cX9_draw 38 = .ok (.iload 5, 2) := by decide +kernel
theorem dX9_draw_40 : decode cX9_draw 40 = .ok (.iload 6, 2) := by decide +kernel
theorem dX9_draw_42 : decode cX9_draw 42 = .ok (.invokevirtual 93, 3) := by decide +kernel
theorem dX9_draw_45 : decode cX9_draw 45 = .ok (.invokevirtual 76, 3) := by decide +kernel
theorem dX9_draw_48 : decode cX9_draw 48 = .ok (.istore 7, 2) := by decide +kernel
theorem dX9_draw_50 : decode cX9_draw 50 = .ok (.iload 7, 2) := by decide +kernel
theorem dX9_draw_52 : decode cX9_draw 52 = .ok (.ifCond .ne 15, 3) := by decide +kernel
theorem dX9_draw_55 : decode cX9_draw 55 = .ok (.aload_n 0, 1) := by decide +kernel
theorem dX9_draw_56 : decode cX9_draw 56 = .ok (.getfield 12, 3) := by decide +kernel
theorem dX9_draw_59 : decode cX9_draw 59 = .ok (.getfield 97, 3) := by decide +kernel
theorem dX9_draw_62 : decode cX9_draw 62 = .ok (.iconst 1, 1) := by decide +kernel
theorem dX9_draw_63 : decode cX9_draw 63 = .ok (.isub, 1) := by decide +kernel
theorem dX9_draw_64 : decode cX9_draw 64 = .ok (.goto 6, 3) := by decide +kernel
theorem dX9_draw_67 : decode cX9_draw 67 = .ok (.iload 7, 2) := by decide +kernel
theorem dX9_draw_69 : decode cX9_draw 69 = .ok (.ineg, 1) := by decide +kernel
theorem dX9_draw_70 : decode cX9_draw 70 = .ok (.ireturn, 1) := by decide +kernel
end
section
theorem flX8_100 : FL RX8 100 0 3 .int false := ⟨RX1, TX1, 19, tyX1, rfl, by decide, TB_t 161 (by decide +kernel) rfl, inX1, tyX1_ok, nmX1, rfl, rfl⟩
theorem flX8_103 : FL RX8 103 0 4 .int false := ⟨RX1, TX1, 19, tyX1, rfl, by decide, TB_t 164 (by decide +kernel) rfl, inX1, tyX1_ok, nmX1, rfl, rfl⟩
theorem flX8_17 : FL RX8 17 6 9 (.array (.object "BillRegistry$Bill")) true := ⟨RX8, TX8, 11, tyX8, rfl, by decide, TB_t 264 (by decide +kernel) rfl, inX8, tyX8_ok, nmX8, rfl, rfl⟩
theorem mlX8_97 : MLV RX8 97 yX1_begin cX1_begin 6 none 4 := ⟨TB_t 541 (by decide +kernel) rfl, TB_t 544 (by decide +kernel) rfl, TB_t 3 (by decide +kernel) rfl, ⟨by decide, by decide, by decide +kernel⟩, TB_t 542 (by decide +kernel) rfl, TB_t 543 (by decide +kernel) rfl⟩
theorem mlX9_93 : MLV RX9 93 yX8_drawOne cX8_drawOne 8 (some .int) 6 := ⟨TB_t 537 (by decide +kernel) rfl, TB_t 540 (by decide +kernel) rfl, TB_t 2 (by decide +kernel) rfl, ⟨by decide, by decide, by decide +kernel⟩, TB_t 538 (by decide +kernel) rfl, TB_t 539 (by decide +kernel) rfl⟩
end
section
set_option maxHeartbeats 4000000 in
set_option maxRecDepth 100000 in
theorem c_X8_drawOne {l : Launch} {D : va_G} {kA : Nat → ClassId} {M : mM} {T : mT} {sz : Nat} {w cs bs tp : Nat} {dr de pe su dy op : Int32} (hc_w : M w = some (.inr (6, [.int 0, .int 2, .int 0, .int 0, .int 0, .int 0, .int 0, .int (-1), .ref cs, .ref bs, .ref tp]))) (ht_bs : T bs = some 6) (hop : op = 0 ∨ op = 1) : mCi l yX8_drawOne cX8_drawOne 8 (some .int) 3 0 0 D kA M T sz [.ref w, .int dr, .int de, .int pe, .int su, .int dy, .int op] (fun r u => (((0 ≤ dr.toInt ∧ dr.toInt ≤ 7 ∧ 0 ≤ de.toInt ∧ de.toInt ≤ 7 ∧ 0 ≤ pe.toInt ∧ pe.toInt ≤ 7 ∧ 1 ≤ su.toInt ∧ su.toInt ≤ 999 ∧ 0 ≤ dy.toInt ∧ dy.toInt ≤ 99) ∧ r = 0 ∧ u.1 w = some (.inr (6, [.int 0, .int 2, .int 1, .int 0, .int 0, .int 0, .int 0, .int (-1), .ref cs, .ref bs, .ref tp]))) ∨ ((¬ (0 ≤ dr.toInt ∧ dr.toInt ≤ 7 ∧ 0 ≤ de.toInt ∧ de.toInt ≤ 7 ∧ 0 ≤ pe.toInt ∧ pe.toInt ≤ 7 ∧ 1 ≤ su.toInt ∧ su.toInt ≤ 999 ∧ 0 ≤ dy.toInt ∧ dy.toInt ≤ 99)) ∧ r = 30 ∧ u.1 w = some (.inr (6, [.int 0, .int 2, .int 0, .int 0, .int 0, .int 0, .int 0, .int (-1), .ref cs, .ref bs, .ref tp])))) ∧ u.2 = T ∧ (∀ q, q ≠ w → u.1 q = M q)) := by
  unfold mCi
  refine start_W (by decide) (Nat.le_of_ble_eq_true rfl) ?_
  intro p e s m below meth c ls hC hr hlk hnm hK hH hsz hl
  have hx := hC.1
  have hb := hC.2.1
  have hl : lv_has ls 8 [(0, .ref w), (1, .int dr), (2, .int de), (3, .int pe), (4, .int su), (5, .int dy), (6, .int op)] := hl
  have hF : ∀ q, q ≠ w → M q = M q := fun q _ => rfl
  refine lv_aload_n hx hb dX8_drawOne_0 rfl (lv_at hl 0 rfl) ?_
  refine xg hC hK hH flX8_36 hc_w rfl dX8_drawOne_1 ?_
  refine lv_iconst (v := 4) hx hb dX8_drawOne_4 (by decide) ?_
  refine jic_ge (tgt := 29) hx hb dX8_drawOne_5 (by decide) (fun c1 => absurd c1 (by decide)) (fun c1 => ?_)
  refine lv_iload_n hx hb dX8_drawOne_8 rfl (lv_at hl 1 rfl) ?_
  refine goI hK hH (runSN (As := [.int dr]) (rest := []) hC hK hH (c_X9_isPerson) mlX8_94 ⟨⟨Nat.le_of_ble_eq_true rfl, Nat.le_of_ble_eq_true rfl⟩, Nat.le_of_ble_eq_true rfl, Nat.le_of_ble_eq_true rfl⟩ rfl hl.1 rfl (Nat.le_of_ble_eq_true rfl) dX8_drawOne_9) (fun r4 M2 T3 H locs hP hz hH => ?_)
  try dsimp only at hP
  obtain ⟨(⟨c5, rfl⟩ | ⟨c6, rfl⟩), eT, eM⟩ := hP
  · skip
    have eT := eT.symm; subst eT
    have eM := eM.symm; subst eM
    have c5 : 0 ≤ dr.toInt ∧ dr.toInt ≤ 7 := c5
    refine jif_eq (tgt := 29) hx hb dX8_drawOne_12 (by decide) (fun c7 => absurd c7 (by decide)) (fun c7 => ?_)
    refine lv_iload_n hx hb dX8_drawOne_15 rfl (lv_at hl 2 rfl) ?_
    refine goI hK hH (runSN (As := [.int de]) (rest := []) hC hK hH (c_X9_isPerson) mlX8_94 ⟨⟨Nat.le_of_ble_eq_true rfl, Nat.le_of_ble_eq_true rfl⟩, Nat.le_of_ble_eq_true rfl, Nat.le_of_ble_eq_true rfl⟩ rfl hl.1 rfl (Nat.le_of_ble_eq_true rfl) dX8_drawOne_16) (fun r10 M8 T9 H locs hP hz hH => ?_)
    try dsimp only at hP
    obtain ⟨(⟨c11, rfl⟩ | ⟨c12, rfl⟩), eT, eM⟩ := hP
    · skip
      have eT := eT.symm; subst eT
      have eM := eM.symm; subst eM
      have c11 : 0 ≤ de.toInt ∧ de.toInt ≤ 7 := c11
      refine jif_eq (tgt := 29) hx hb dX8_drawOne_19 (by decide) (fun c13 => absurd c13 (by decide)) (fun c13 => ?_)
      refine lv_iload_n hx hb dX8_drawOne_22 rfl (lv_at hl 3 rfl) ?_
      refine goI hK hH (runSN (As := [.int pe]) (rest := []) hC hK hH (c_X9_isPerson) mlX8_94 ⟨⟨Nat.le_of_ble_eq_true rfl, Nat.le_of_ble_eq_true rfl⟩, Nat.le_of_ble_eq_true rfl, Nat.le_of_ble_eq_true rfl⟩ rfl hl.1 rfl (Nat.le_of_ble_eq_true rfl) dX8_drawOne_23) (fun r16 M14 T15 H locs hP hz hH => ?_)
      try dsimp only at hP
      obtain ⟨(⟨c17, rfl⟩ | ⟨c18, rfl⟩), eT, eM⟩ := hP
      · skip
        have eT := eT.symm; subst eT
        have eM := eM.symm; subst eM
        have c17 : 0 ≤ pe.toInt ∧ pe.toInt ≤ 7 := c17
        refine jif_ne (tgt := 32) hx hb dX8_drawOne_26 (by decide) (fun c19 => ?_) (fun c19 => absurd c19 (by decide))
        refine lv_iload hx hb dX8_drawOne_32 (lv_at hl 4 rfl) ?_
        refine lv_iconst (v := 1) hx hb dX8_drawOne_34 (by decide) ?_
        refine jic_lt (tgt := 58) hx hb dX8_drawOne_35 (by decide) (fun c20 => ?_) (fun c20 => ?_)
        · skip
          have c20 : su.toInt < 1 := c20
          refine lv_bipush (v := 30) hx hb dX8_drawOne_58 (by decide) ?_
          exact ret_i hC hr hlk hK hH (⟨Or.inr (⟨by omega, rfl, hc_w⟩), rfl, hF⟩) (Nat.le_of_ble_eq_true rfl) (Nat.le_of_ble_eq_true rfl) dX8_drawOne_60
        · skip
          have c20 : 1 ≤ su.toInt := c20
          refine lv_iload hx hb dX8_drawOne_38 (lv_at hl 4 rfl) ?_
          refine lv_sipush (v := 999) hx hb dX8_drawOne_40 (by decide) ?_
          refine jic_gt (tgt := 58) hx hb dX8_drawOne_43 (by decide) (fun c21 => ?_) (fun c21 => ?_)
          · skip
            have c21 : 999 < su.toInt := c21
            refine lv_bipush (v := 30) hx hb dX8_drawOne_58 (by decide) ?_
            exact ret_i hC hr hlk hK hH (⟨Or.inr (⟨by omega, rfl, hc_w⟩), rfl, hF⟩) (Nat.le_of_ble_eq_true rfl) (Nat.le_of_ble_eq_true rfl) dX8_drawOne_60
          · skip
            have c21 : su.toInt ≤ 999 := c21
            refine lv_iload hx hb dX8_drawOne_46 (lv_at hl 5 rfl) ?_
            refine jif_lt (tgt := 58) hx hb dX8_drawOne_48 (by decide) (fun c22 => ?_) (fun c22 => ?_)
            · skip
              have c22 : dy.toInt < 0 := c22
              refine lv_bipush (v := 30) hx hb dX8_drawOne_58 (by decide) ?_
              exact ret_i hC hr hlk hK hH (⟨Or.inr (⟨by omega, rfl, hc_w⟩), rfl, hF⟩) (Nat.le_of_ble_eq_true rfl) (Nat.le_of_ble_eq_true rfl) dX8_drawOne_60
            · skip
              have c22 : 0 ≤ dy.toInt := c22
              refine lv_iload hx hb dX8_drawOne_51 (lv_at hl 5 rfl) ?_
              refine lv_bipush (v := 99) hx hb dX8_drawOne_53 (by decide) ?_
              refine jic_le (tgt := 61) hx hb dX8_drawOne_55 (by decide) (fun c23 => ?_) (fun c23 => ?_)
              · skip
                have c23 : dy.toInt ≤ 99 := c23
                refine lv_aload_n hx hb dX8_drawOne_61 rfl (lv_at hl 0 rfl) ?_
                refine xg hC hK hH flX8_17 hc_w rfl dX8_drawOne_62 ?_
                refine lv_aload_n hx hb dX8_drawOne_65 rfl (lv_at hl 0 rfl) ?_
                refine xg hC hK hH flX8_36 hc_w rfl dX8_drawOne_66 ?_
                refine tqld hC hK hH ht_bs rfl rfl (iIn (by decide) (by decide)) dX8_drawOne_69 (fun q24 t_q24 => ?_)
                refine lv_astore (lv' := [(7, .ref q24), (0, .ref w), (1, .int dr), (2, .int de), (3, .int pe), (4, .int su), (5, .int dy), (6, .int op)]) hx hb dX8_drawOne_70 hl (by decide) rfl (fun ls hl => ?_)
                refine lv_aload hx hb dX8_drawOne_72 (lv_at hl 0 rfl) ?_
                refine lv_iload_n hx hb dX8_drawOne_74 rfl (lv_at hl 2 rfl) ?_
                refine lv_iload_n hx hb dX8_drawOne_75 rfl (lv_at hl 3 rfl) ?_
                refine lv_iload_n hx hb dX8_drawOne_76 rfl (lv_at hl 4 rfl) ?_
                refine lv_iload hx hb dX8_drawOne_77 (lv_at hl 7 rfl) ?_
                refine goV hK hH (runV (As := [.int dr, .int de, .int pe, .int op]) (rest := []) hC hK hH (c_X1_begin t_q24 (by omega) (by omega)) mlX8_97 (rcvT hK hH t_q24 rfl rfl) ⟨⟨Nat.le_of_ble_eq_true rfl, Nat.le_of_ble_eq_true rfl⟩, Nat.le_of_ble_eq_true rfl, Nat.le_of_ble_eq_true rfl⟩ rfl hl.1 rfl (Nat.le_of_ble_eq_true rfl) dX8_drawOne_79) (fun M25 T26 H locs hP hz hH => ?_)
                try dsimp only at hP
                obtain ⟨(-), eT, eM⟩ := hP
                have eT := eT.symm; subst eT
                have eM := eM.symm; subst eM
                refine lv_aload hx hb dX8_drawOne_82 (lv_at hl 0 rfl) ?_
                refine lv_iload hx hb dX8_drawOne_84 (lv_at hl 5 rfl) ?_
                refine tpu hC hK hH flX8_100 t_q24 rfl rfl (iRg _).1 (iRg _).2 rfl rfl dX8_drawOne_86 (fun H locs hH => ?_)
                refine lv_aload hx hb dX8_drawOne_89 (lv_at hl 0 rfl) ?_
                refine lv_aload_n hx hb dX8_drawOne_91 rfl (lv_at hl 1 rfl) ?_
                refine xg hC hK hH flX8_29 hc_w rfl dX8_drawOne_92 ?_
                refine lv_iload hx hb dX8_drawOne_95 (lv_at hl 6 rfl) ?_
                refine lv_iadd hx hb dX8_drawOne_97 ?_
                refine lv_topi (fun z28 e_z28 => ?_)
                have h_z28 : z28.toInt = 0 + dy.toInt := by rw [e_z28, iAdd (by have : (0 : Int32).toInt = 0 := rfl; have := iRg dy; omega) (by have : (0 : Int32).toInt = 0 := rfl; have := iRg dy; omega)]; rfl
                refine tpu hC hK hH flX8_103 t_q24 rfl rfl (iRg _).1 (iRg _).2 rfl rfl dX8_drawOne_98 (fun H locs hH => ?_)
                refine lv_aload_n hx hb dX8_drawOne_101 rfl (lv_at hl 1 rfl) ?_
                refine lv_dup hx hb dX8_drawOne_102 rfl ?_
                refine xg hC hK hH flX8_36 hc_w rfl dX8_drawOne_103 ?_
                refine lv_iconst (v := 1) hx hb dX8_drawOne_106 (by decide) ?_
                refine lv_iadd hx hb dX8_drawOne_107 ?_
                refine lv_cst (v := 1) (by decide) ?_
                refine yp (v := .int 1) hC hK hH flX8_36 hc_w rfl rfl (Nat.le_of_ble_eq_true rfl) dX8_drawOne_108 (fun H locs M29 hc_w hfr hH => ?_)
                have hc_w : M29 w = some (.inr (6, [.int 0, .int 2, .int 1, .int 0, .int 0, .int 0, .int 0, .int (-1), .ref cs, .ref bs, .ref tp])) := hc_w
                have hF : ∀ q, q ≠ w → M29 q = M q := fun q h0 => (hfr q h0).trans (hF q h0)
                refine lv_iconst (v := 0) hx hb dX8_drawOne_111 (by decide) ?_
                subst e_z28
                exact ret_i hC hr hlk hK hH (⟨Or.inl (⟨by omega, rfl, hc_w⟩), rfl, hF⟩) (Nat.le_of_ble_eq_true rfl) (Nat.le_of_ble_eq_true rfl) dX8_drawOne_112
              · skip
                have c23 : 99 < dy.toInt := c23
                refine lv_bipush (v := 30) hx hb dX8_drawOne_58 (by decide) ?_
                exact ret_i hC hr hlk hK hH (⟨Or.inr (⟨by omega, rfl, hc_w⟩), rfl, hF⟩) (Nat.le_of_ble_eq_true rfl) (Nat.le_of_ble_eq_true rfl) dX8_drawOne_60
      · skip
        have eT := eT.symm; subst eT
        have eM := eM.symm; subst eM
        have c18 : ¬ (0 ≤ pe.toInt ∧ pe.toInt ≤ 7) := c18
        refine jif_ne (tgt := 32) hx hb dX8_drawOne_26 (by decide) (fun c30 => absurd c30 (by decide)) (fun c30 => ?_)
        refine lv_bipush (v := 30) hx hb dX8_drawOne_29 (by decide) ?_
        exact ret_i hC hr hlk hK hH (⟨Or.inr (⟨by omega, rfl, hc_w⟩), rfl, hF⟩) (Nat.le_of_ble_eq_true rfl) (Nat.le_of_ble_eq_true rfl) dX8_drawOne_31
    · skip
      have eT := eT.symm; subst eT
      have eM := eM.symm; subst eM
      have c12 : ¬ (0 ≤ de.toInt ∧ de.toInt ≤ 7) := c12
      refine jif_eq (tgt := 29) hx hb dX8_drawOne_19 (by decide) (fun c31 => ?_) (fun c31 => absurd c31 (by decide))
      refine lv_bipush (v := 30) hx hb dX8_drawOne_29 (by decide) ?_
      exact ret_i hC hr hlk hK hH (⟨Or.inr (⟨by omega, rfl, hc_w⟩), rfl, hF⟩) (Nat.le_of_ble_eq_true rfl) (Nat.le_of_ble_eq_true rfl) dX8_drawOne_31
  · skip
    have eT := eT.symm; subst eT
    have eM := eM.symm; subst eM
    have c6 : ¬ (0 ≤ dr.toInt ∧ dr.toInt ≤ 7) := c6
    refine jif_eq (tgt := 29) hx hb dX8_drawOne_12 (by decide) (fun c32 => ?_) (fun c32 => absurd c32 (by decide))
    refine lv_bipush (v := 30) hx hb dX8_drawOne_29 (by decide) ?_
    exact ret_i hC hr hlk hK hH (⟨Or.inr (⟨by omega, rfl, hc_w⟩), rfl, hF⟩) (Nat.le_of_ble_eq_true rfl) (Nat.le_of_ble_eq_true rfl) dX8_drawOne_31
set_option maxHeartbeats 4000000 in
set_option maxRecDepth 100000 in
theorem c_X9_draw {l : Launch} {D : va_G} {kA : Nat → ClassId} {M : mM} {T : mT} {sz : Nat} {ro im rd rc cu : Nat} {w cs bs tp : Nat} {dr de pe su dy : Int32} (hc_ro : M ro = some (.inr (7, [.ref w, .ref im, .ref rd, .ref rc, .ref cu]))) (hc_w : M w = some (.inr (6, [.int 0, .int 2, .int 0, .int 0, .int 0, .int 0, .int 0, .int (-1), .ref cs, .ref bs, .ref tp]))) (ht_bs : T bs = some 6) : mCi l yX9_draw cX9_draw 8 (some .int) 4 0 0 D kA M T sz [.ref ro, .int dr, .int de, .int pe, .int su, .int dy] (fun r u => (((0 ≤ dr.toInt ∧ dr.toInt ≤ 7 ∧ 0 ≤ de.toInt ∧ de.toInt ≤ 7 ∧ (0 ≤ pe.toInt ∧ pe.toInt ≤ 7 ∨ 10 ≤ pe.toInt ∧ pe.toInt ≤ 17) ∧ 1 ≤ su.toInt ∧ su.toInt ≤ 999 ∧ 0 ≤ dy.toInt ∧ dy.toInt ≤ 99) ∧ r = 0) ∨ ((¬ (0 ≤ dr.toInt ∧ dr.toInt ≤ 7 ∧ 0 ≤ de.toInt ∧ de.toInt ≤ 7 ∧ (0 ≤ pe.toInt ∧ pe.toInt ≤ 7 ∨ 10 ≤ pe.toInt ∧ pe.toInt ≤ 17) ∧ 1 ≤ su.toInt ∧ su.toInt ≤ 999 ∧ 0 ≤ dy.toInt ∧ dy.toInt ≤ 99)) ∧ r = -30)) ∧ u.2 = T ∧ (∀ q, q ≠ w → u.1 q = M q)) := by
  unfold mCi
  refine start_W (by decide) (Nat.le_of_ble_eq_true rfl) ?_
  intro p e s m below meth c ls hC hr hlk hnm hK hH hsz hl
  have hx := hC.1
  have hb := hC.2.1
  have hl : lv_has ls 8 [(0, .ref ro), (1, .int dr), (2, .int de), (3, .int pe), (4, .int su), (5, .int dy)] := hl
  have hF : ∀ q, q ≠ w → M q = M q := fun q _ => rfl
  have n_ro_w : ro ≠ w := neM hc_ro hc_w (by simp)
  have n_w_ro : w ≠ ro := neM hc_w hc_ro (by simp)
  refine lv_iload_n hx hb dX9_draw_0 rfl (lv_at hl 3 rfl) ?_
  refine lv_bipush (v := 10) hx hb dX9_draw_1 (by decide) ?_
  refine jic_lt (tgt := 10) hx hb dX9_draw_3 (by decide) (fun c1 => ?_) (fun c1 => ?_)
  · skip
    have c1 : pe.toInt < 10 := c1
    refine lv_iconst (v := 0) hx hb dX9_draw_10 (by decide) ?_
    refine lv_istore (lv' := [(6, .int 0), (0, .ref ro), (1, .int dr), (2, .int de), (3, .int pe), (4, .int su), (5, .int dy)]) hx hb dX9_draw_11 hl (by decide) rfl (fun ls hl => ?_)
    refine lv_aload_n hx hb dX9_draw_13 rfl (lv_at hl 1 rfl) ?_
    refine xg hC hK hH flX9_12 hc_ro rfl dX9_draw_14 ?_
    refine lv_aload_n hx hb dX9_draw_17 rfl (lv_at hl 1 rfl) ?_
    refine xg hC hK hH flX9_12 hc_ro rfl dX9_draw_18 ?_
    refine lv_iload_n hx hb dX9_draw_21 rfl (lv_at hl 2 rfl) ?_
    refine lv_iload_n hx hb dX9_draw_22 rfl (lv_at hl 3 rfl) ?_
    refine lv_iload hx hb dX9_draw_23 (lv_at hl 0 rfl) ?_
    refine jif_eq (tgt := 35) hx hb dX9_draw_25 (by decide) (fun c2 => ?_) (fun c2 => absurd c2 (by decide))
    refine lv_iload_n hx hb dX9_draw_35 rfl (lv_at hl 4 rfl) ?_
    refine lv_iload hx hb dX9_draw_36 (lv_at hl 5 rfl) ?_
    refine lv_iload hx hb dX9_draw_38 (lv_at hl 6 rfl) ?_
    refine lv_iload hx hb dX9_draw_40 (lv_at hl 0 rfl) ?_
    refine goI hK hH (runV (As := [.int dr, .int de, .int pe, .int su, .int dy, .int 0]) (rest := [.ref w]) hC hK hH (c_X8_drawOne hc_w ht_bs (by decide)) mlX9_93 (rcvM hK hH hc_w rfl) ⟨⟨Nat.le_of_ble_eq_true rfl, Nat.le_of_ble_eq_true rfl⟩, Nat.le_of_ble_eq_true rfl, Nat.le_of_ble_eq_true rfl⟩ rfl hl.1 rfl (Nat.le_of_ble_eq_true rfl) dX9_draw_42) (fun r5 M3 T4 H locs hP hz hH => ?_)
    try dsimp only at hP
    obtain ⟨(⟨c6, rfl, hx_w⟩ | ⟨c7, rfl, hx_w⟩), eT, hfr⟩ := hP
    · skip
      have eT := eT.symm; subst eT
      have hc_ro : M3 ro = some (.inr (7, [.ref w, .ref im, .ref rd, .ref rc, .ref cu])) := (hfr ro n_ro_w).trans hc_ro
      have hc_w : M3 w = some (.inr (6, [.int 0, .int 2, .int 1, .int 0, .int 0, .int 0, .int 0, .int (-1), .ref cs, .ref bs, .ref tp])) := hx_w
      have hF : ∀ q, q ≠ w → M3 q = M q := fun q h0 => (hfr q h0).trans (hF q h0)
      have c6 : 0 ≤ dr.toInt ∧ dr.toInt ≤ 7 ∧ 0 ≤ de.toInt ∧ de.toInt ≤ 7 ∧ 0 ≤ pe.toInt ∧ pe.toInt ≤ 7 ∧ 1 ≤ su.toInt ∧ su.toInt ≤ 999 ∧ 0 ≤ dy.toInt ∧ dy.toInt ≤ 99 := c6
      refine goI hK hH (runV (As := [.int 0]) (rest := []) hC hK hH (c_X8_note hc_w) mlX9_76 (rcvM hK hH hc_w rfl) ⟨⟨Nat.le_of_ble_eq_true rfl, Nat.le_of_ble_eq_true rfl⟩, Nat.le_of_ble_eq_true rfl, Nat.le_of_ble_eq_true rfl⟩ rfl hl.1 rfl (Nat.le_of_ble_eq_true rfl) dX9_draw_45) (fun r10 M8 T9 H locs hP hz hH => ?_)
      try dsimp only at hP
      obtain ⟨(⟨c11, rfl, hx_w⟩ | ⟨c12, rfl, hx_w⟩), eT, hfr⟩ := hP
      · skip
        have eT := eT.symm; subst eT
        have hc_ro : M8 ro = some (.inr (7, [.ref w, .ref im, .ref rd, .ref rc, .ref cu])) := (hfr ro n_ro_w).trans hc_ro
        have hc_w : M8 w = some (.inr (6, [.int 0, .int 2, .int 1, .int 0, .int (0 + 1), .int 0, .int 0, .int (-1), .ref cs, .ref bs, .ref tp])) := hx_w
        have hF : ∀ q, q ≠ w → M8 q = M q := fun q h0 => (hfr q h0).trans (hF q h0)
        have c11 : (0 : Int) ≠ 0 := c11
        exact absurd c11 (by omega)
      · skip
        have eT := eT.symm; subst eT
        have hc_ro : M8 ro = some (.inr (7, [.ref w, .ref im, .ref rd, .ref rc, .ref cu])) := (hfr ro n_ro_w).trans hc_ro
        have hc_w : M8 w = some (.inr (6, [.int 0, .int 2, .int 1, .int 0, .int 0, .int 0, .int 0, .int (-1), .ref cs, .ref bs, .ref tp])) := hx_w
        have hF : ∀ q, q ≠ w → M8 q = M q := fun q h0 => (hfr q h0).trans (hF q h0)
        have c12 : (0 : Int) = 0 := c12
        refine lv_istore (lv' := [(7, .int 0), (6, .int 0), (0, .ref ro), (1, .int dr), (2, .int de), (3, .int pe), (4, .int su), (5, .int dy)]) hx hb dX9_draw_48 hl (by decide) rfl (fun ls hl => ?_)
        refine lv_iload hx hb dX9_draw_50 (lv_at hl 0 rfl) ?_
        refine jif_ne (tgt := 67) hx hb dX9_draw_52 (by decide) (fun c13 => absurd c13 (by decide)) (fun c13 => ?_)
        refine lv_aload_n hx hb dX9_draw_55 rfl (lv_at hl 2 rfl) ?_
        refine xg hC hK hH flX9_12 hc_ro rfl dX9_draw_56 ?_
        refine xg hC hK hH flX9_97 hc_w rfl dX9_draw_59 ?_
        refine lv_iconst (v := 1) hx hb dX9_draw_62 (by decide) ?_
        refine lv_isub hx hb dX9_draw_63 ?_
        refine lv_cst (v := 0) (by decide) ?_
        refine lv_goto (tgt := 70) hx hb dX9_draw_64 (by decide) ?_
        exact ret_i hC hr hlk hK hH (⟨Or.inl (⟨by omega, rfl⟩), rfl, hF⟩) (Nat.le_of_ble_eq_true rfl) (Nat.le_of_ble_eq_true rfl) dX9_draw_70
    · skip
      have eT := eT.symm; subst eT
      have hc_ro : M3 ro = some (.inr (7, [.ref w, .ref im, .ref rd, .ref rc, .ref cu])) := (hfr ro n_ro_w).trans hc_ro
      have hc_w : M3 w = some (.inr (6, [.int 0, .int 2, .int 0, .int 0, .int 0, .int 0, .int 0, .int (-1), .ref cs, .ref bs, .ref tp])) := hx_w
      have hF : ∀ q, q ≠ w → M3 q = M q := fun q h0 => (hfr q h0).trans (hF q h0)
      have c7 : ¬ (0 ≤ dr.toInt ∧ dr.toInt ≤ 7 ∧ 0 ≤ de.toInt ∧ de.toInt ≤ 7 ∧ 0 ≤ pe.toInt ∧ pe.toInt ≤ 7 ∧ 1 ≤ su.toInt ∧ su.toInt ≤ 999 ∧ 0 ≤ dy.toInt ∧ dy.toInt ≤ 99) := c7
      refine goI hK hH (runV (As := [.int 30]) (rest := []) hC hK hH (c_X8_note hc_w) mlX9_76 (rcvM hK hH hc_w rfl) ⟨⟨Nat.le_of_ble_eq_true rfl, Nat.le_of_ble_eq_true rfl⟩, Nat.le_of_ble_eq_true rfl, Nat.le_of_ble_eq_true rfl⟩ rfl hl.1 rfl (Nat.le_of_ble_eq_true rfl) dX9_draw_45) (fun r16 M14 T15 H locs hP hz hH => ?_)
      try dsimp only at hP
      obtain ⟨(⟨c17, rfl, hx_w⟩ | ⟨c18, rfl, hx_w⟩), eT, hfr⟩ := hP
      · skip
        have eT := eT.symm; subst eT
        have hc_ro : M14 ro = some (.inr (7, [.ref w, .ref im, .ref rd, .ref rc, .ref cu])) := (hfr ro n_ro_w).trans hc_ro
        have hc_w : M14 w = some (.inr (6, [.int 0, .int 2, .int 0, .int 0, .int (0 + 1), .int 30, .int 0, .int (-1), .ref cs, .ref bs, .ref tp])) := hx_w
        have hF : ∀ q, q ≠ w → M14 q = M q := fun q h0 => (hfr q h0).trans (hF q h0)
        have c17 : (30 : Int) ≠ 0 := c17
        refine lv_istore (lv' := [(7, .int 30), (6, .int 0), (0, .ref ro), (1, .int dr), (2, .int de), (3, .int pe), (4, .int su), (5, .int dy)]) hx hb dX9_draw_48 hl (by decide) rfl (fun ls hl => ?_)
        refine lv_iload hx hb dX9_draw_50 (lv_at hl 0 rfl) ?_
        refine jif_ne (tgt := 67) hx hb dX9_draw_52 (by decide) (fun c19 => ?_) (fun c19 => absurd c19 (by decide))
        refine lv_iload hx hb dX9_draw_67 (lv_at hl 0 rfl) ?_
        refine lv_ineg hx hb dX9_draw_69 ?_
        refine lv_cst (v := -30) (by decide) ?_
        exact ret_i hC hr hlk hK hH (⟨Or.inr (⟨by omega, rfl⟩), rfl, hF⟩) (Nat.le_of_ble_eq_true rfl) (Nat.le_of_ble_eq_true rfl) dX9_draw_70
      · skip
        have eT := eT.symm; subst eT
        have hc_ro : M14 ro = some (.inr (7, [.ref w, .ref im, .ref rd, .ref rc, .ref cu])) := (hfr ro n_ro_w).trans hc_ro
        have hc_w : M14 w = some (.inr (6, [.int 0, .int 2, .int 0, .int 0, .int 0, .int 30, .int 0, .int (-1), .ref cs, .ref bs, .ref tp])) := hx_w
        have hF : ∀ q, q ≠ w → M14 q = M q := fun q h0 => (hfr q h0).trans (hF q h0)
        have c18 : (30 : Int) = 0 := c18
        exact absurd c18 (by omega)
  · skip
    have c1 : 10 ≤ pe.toInt := c1
    refine lv_iconst (v := 1) hx hb dX9_draw_6 (by decide) ?_
    refine lv_goto (tgt := 11) hx hb dX9_draw_7 (by decide) ?_
    refine lv_istore (lv' := [(6, .int 1), (0, .ref ro), (1, .int dr), (2, .int de), (3, .int pe), (4, .int su), (5, .int dy)]) hx hb dX9_draw_11 hl (by decide) rfl (fun ls hl => ?_)
    refine lv_aload_n hx hb dX9_draw_13 rfl (lv_at hl 1 rfl) ?_
    refine xg hC hK hH flX9_12 hc_ro rfl dX9_draw_14 ?_
    refine lv_aload_n hx hb dX9_draw_17 rfl (lv_at hl 1 rfl) ?_
    refine xg hC hK hH flX9_12 hc_ro rfl dX9_draw_18 ?_
    refine lv_iload_n hx hb dX9_draw_21 rfl (lv_at hl 2 rfl) ?_
    refine lv_iload_n hx hb dX9_draw_22 rfl (lv_at hl 3 rfl) ?_
    refine lv_iload hx hb dX9_draw_23 (lv_at hl 0 rfl) ?_
    refine jif_eq (tgt := 35) hx hb dX9_draw_25 (by decide) (fun c20 => absurd c20 (by decide)) (fun c20 => ?_)
    refine lv_iload_n hx hb dX9_draw_28 rfl (lv_at hl 4 rfl) ?_
    refine lv_bipush (v := 10) hx hb dX9_draw_29 (by decide) ?_
    refine lv_isub hx hb dX9_draw_31 ?_
    refine lv_topi (fun z21 e_z21 => ?_)
    have h_z21 : z21.toInt = pe.toInt - 10 := by rw [e_z21, iSub (by have := iRg pe; have : (10 : Int32).toInt = 10 := rfl; omega) (by have := iRg pe; have : (10 : Int32).toInt = 10 := rfl; omega)]; rfl
    refine lv_goto (tgt := 36) hx hb dX9_draw_32 (by decide) ?_
    refine lv_iload hx hb dX9_draw_36 (lv_at hl 5 rfl) ?_
    refine lv_iload hx hb dX9_draw_38 (lv_at hl 6 rfl) ?_
    refine lv_iload hx hb dX9_draw_40 (lv_at hl 0 rfl) ?_
    refine goI hK hH (runV (As := [.int dr, .int de, .int z21, .int su, .int dy, .int 1]) (rest := [.ref w]) hC hK hH (c_X8_drawOne hc_w ht_bs (by decide)) mlX9_93 (rcvM hK hH hc_w rfl) ⟨⟨Nat.le_of_ble_eq_true rfl, Nat.le_of_ble_eq_true rfl⟩, Nat.le_of_ble_eq_true rfl, Nat.le_of_ble_eq_true rfl⟩ rfl hl.1 rfl (Nat.le_of_ble_eq_true rfl) dX9_draw_42) (fun r24 M22 T23 H locs hP hz hH => ?_)
    try dsimp only at hP
    obtain ⟨(⟨c25, rfl, hx_w⟩ | ⟨c26, rfl, hx_w⟩), eT, hfr⟩ := hP
    · skip
      have eT := eT.symm; subst eT
      have hc_ro : M22 ro = some (.inr (7, [.ref w, .ref im, .ref rd, .ref rc, .ref cu])) := (hfr ro n_ro_w).trans hc_ro
      have hc_w : M22 w = some (.inr (6, [.int 0, .int 2, .int 1, .int 0, .int 0, .int 0, .int 0, .int (-1), .ref cs, .ref bs, .ref tp])) := hx_w
      have hF : ∀ q, q ≠ w → M22 q = M q := fun q h0 => (hfr q h0).trans (hF q h0)
      have c25 : 0 ≤ dr.toInt ∧ dr.toInt ≤ 7 ∧ 0 ≤ de.toInt ∧ de.toInt ≤ 7 ∧ 0 ≤ z21.toInt ∧ z21.toInt ≤ 7 ∧ 1 ≤ su.toInt ∧ su.toInt ≤ 999 ∧ 0 ≤ dy.toInt ∧ dy.toInt ≤ 99 := c25
      refine goI hK hH (runV (As := [.int 0]) (rest := []) hC hK hH (c_X8_note hc_w) mlX9_76 (rcvM hK hH hc_w rfl) ⟨⟨Nat.le_of_ble_eq_true rfl, Nat.le_of_ble_eq_true rfl⟩, Nat.le_of_ble_eq_true rfl, Nat.le_of_ble_eq_true rfl⟩ rfl hl.1 rfl (Nat.le_of_ble_eq_true rfl) dX9_draw_45) (fun r29 M27 T28 H locs hP hz hH => ?_)
      try dsimp only at hP
      obtain ⟨(⟨c30, rfl, hx_w⟩ | ⟨c31, rfl, hx_w⟩), eT, hfr⟩ := hP
      · skip
        have eT := eT.symm; subst eT
        have hc_ro : M27 ro = some (.inr (7, [.ref w, .ref im, .ref rd, .ref rc, .ref cu])) := (hfr ro n_ro_w).trans hc_ro
        have hc_w : M27 w = some (.inr (6, [.int 0, .int 2, .int 1, .int 0, .int (0 + 1), .int 0, .int 0, .int (-1), .ref cs, .ref bs, .ref tp])) := hx_w
        have hF : ∀ q, q ≠ w → M27 q = M q := fun q h0 => (hfr q h0).trans (hF q h0)
        have c30 : (0 : Int) ≠ 0 := c30
        exact absurd c30 (by omega)
      · skip
        have eT := eT.symm; subst eT
        have hc_ro : M27 ro = some (.inr (7, [.ref w, .ref im, .ref rd, .ref rc, .ref cu])) := (hfr ro n_ro_w).trans hc_ro
        have hc_w : M27 w = some (.inr (6, [.int 0, .int 2, .int 1, .int 0, .int 0, .int 0, .int 0, .int (-1), .ref cs, .ref bs, .ref tp])) := hx_w
        have hF : ∀ q, q ≠ w → M27 q = M q := fun q h0 => (hfr q h0).trans (hF q h0)
        have c31 : (0 : Int) = 0 := c31
        refine lv_istore (lv' := [(7, .int 0), (6, .int 1), (0, .ref ro), (1, .int dr), (2, .int de), (3, .int pe), (4, .int su), (5, .int dy)]) hx hb dX9_draw_48 hl (by decide) rfl (fun ls hl => ?_)
        refine lv_iload hx hb dX9_draw_50 (lv_at hl 0 rfl) ?_
        refine jif_ne (tgt := 67) hx hb dX9_draw_52 (by decide) (fun c32 => absurd c32 (by decide)) (fun c32 => ?_)
        refine lv_aload_n hx hb dX9_draw_55 rfl (lv_at hl 2 rfl) ?_
        refine xg hC hK hH flX9_12 hc_ro rfl dX9_draw_56 ?_
        refine xg hC hK hH flX9_97 hc_w rfl dX9_draw_59 ?_
        refine lv_iconst (v := 1) hx hb dX9_draw_62 (by decide) ?_
        refine lv_isub hx hb dX9_draw_63 ?_
        refine lv_cst (v := 0) (by decide) ?_
        refine lv_goto (tgt := 70) hx hb dX9_draw_64 (by decide) ?_
        subst e_z21
        exact ret_i hC hr hlk hK hH (⟨Or.inl (⟨by omega, rfl⟩), rfl, hF⟩) (Nat.le_of_ble_eq_true rfl) (Nat.le_of_ble_eq_true rfl) dX9_draw_70
    · skip
      have eT := eT.symm; subst eT
      have hc_ro : M22 ro = some (.inr (7, [.ref w, .ref im, .ref rd, .ref rc, .ref cu])) := (hfr ro n_ro_w).trans hc_ro
      have hc_w : M22 w = some (.inr (6, [.int 0, .int 2, .int 0, .int 0, .int 0, .int 0, .int 0, .int (-1), .ref cs, .ref bs, .ref tp])) := hx_w
      have hF : ∀ q, q ≠ w → M22 q = M q := fun q h0 => (hfr q h0).trans (hF q h0)
      have c26 : ¬ (0 ≤ dr.toInt ∧ dr.toInt ≤ 7 ∧ 0 ≤ de.toInt ∧ de.toInt ≤ 7 ∧ 0 ≤ z21.toInt ∧ z21.toInt ≤ 7 ∧ 1 ≤ su.toInt ∧ su.toInt ≤ 999 ∧ 0 ≤ dy.toInt ∧ dy.toInt ≤ 99) := c26
      refine goI hK hH (runV (As := [.int 30]) (rest := []) hC hK hH (c_X8_note hc_w) mlX9_76 (rcvM hK hH hc_w rfl) ⟨⟨Nat.le_of_ble_eq_true rfl, Nat.le_of_ble_eq_true rfl⟩, Nat.le_of_ble_eq_true rfl, Nat.le_of_ble_eq_true rfl⟩ rfl hl.1 rfl (Nat.le_of_ble_eq_true rfl) dX9_draw_45) (fun r35 M33 T34 H locs hP hz hH => ?_)
      try dsimp only at hP
      obtain ⟨(⟨c36, rfl, hx_w⟩ | ⟨c37, rfl, hx_w⟩), eT, hfr⟩ := hP
      · skip
        have eT := eT.symm; subst eT
        have hc_ro : M33 ro = some (.inr (7, [.ref w, .ref im, .ref rd, .ref rc, .ref cu])) := (hfr ro n_ro_w).trans hc_ro
        have hc_w : M33 w = some (.inr (6, [.int 0, .int 2, .int 0, .int 0, .int (0 + 1), .int 30, .int 0, .int (-1), .ref cs, .ref bs, .ref tp])) := hx_w
        have hF : ∀ q, q ≠ w → M33 q = M q := fun q h0 => (hfr q h0).trans (hF q h0)
        have c36 : (30 : Int) ≠ 0 := c36
        refine lv_istore (lv' := [(7, .int 30), (6, .int 1), (0, .ref ro), (1, .int dr), (2, .int de), (3, .int pe), (4, .int su), (5, .int dy)]) hx hb dX9_draw_48 hl (by decide) rfl (fun ls hl => ?_)
        refine lv_iload hx hb dX9_draw_50 (lv_at hl 0 rfl) ?_
        refine jif_ne (tgt := 67) hx hb dX9_draw_52 (by decide) (fun c38 => ?_) (fun c38 => absurd c38 (by decide))
        refine lv_iload hx hb dX9_draw_67 (lv_at hl 0 rfl) ?_
        refine lv_ineg hx hb dX9_draw_69 ?_
        refine lv_cst (v := -30) (by decide) ?_
        subst e_z21
        exact ret_i hC hr hlk hK hH (⟨Or.inr (⟨by omega, rfl⟩), rfl, hF⟩) (Nat.le_of_ble_eq_true rfl) (Nat.le_of_ble_eq_true rfl) dX9_draw_70
      · skip
        have eT := eT.symm; subst eT
        have hc_ro : M33 ro = some (.inr (7, [.ref w, .ref im, .ref rd, .ref rc, .ref cu])) := (hfr ro n_ro_w).trans hc_ro
        have hc_w : M33 w = some (.inr (6, [.int 0, .int 2, .int 0, .int 0, .int 0, .int 30, .int 0, .int (-1), .ref cs, .ref bs, .ref tp])) := hx_w
        have hF : ∀ q, q ≠ w → M33 q = M q := fun q h0 => (hfr q h0).trans (hF q h0)
        have c37 : (30 : Int) = 0 := c37
        exact absurd c37 (by omega)
end
section
theorem dX1_init_0 : decode cX1_init 0 = .ok (.aload_n 0, 1) := by decide +kernel
theorem dX1_init_1 : decode cX1_init 1 = .ok (.invokespecial 3, 3) := by decide +kernel
theorem dX1_init_4 : decode cX1_init 4 = .ok (.aload_n 0, 1) := by decide +kernel
theorem dX1_init_5 : decode cX1_init 5 = .ok (.bipush 12, 2) := by decide +kernel
theorem dX1_init_7 : decode cX1_init 7 = .ok (.anewarray 9, 3) := by decide +kernel
theorem dX1_init_10 : decode cX1_init 10 = .ok (.putfield 11, 3) := by decide +kernel
theorem dX1_init_13 : decode cX1_init 13 = .ok (.aload_n 0, 1) := by decide +kernel
theorem dX1_init_14 : decode cX1_init 14 = .ok (.new 17, 3) := by decide +kernel
theorem dX1_init_17 : decode cX1_init 17 = .ok (.dup, 1) := by decide +kernel
theorem dX1_init_18 : decode cX1_init 18 = .ok (.invokespecial 19, 3) := by decide +kernel
theorem dX1_init_21 : decode cX1_init 21 = .ok (.putfield 20, 3) := by decide +kernel
theorem dX1_init_24 : decode cX1_init 24 = .ok (.aload_n 0, 1) := by decide +kernel
theorem dX1_init_25 : decode cX1_init 25 = .ok (.new 17, 3) := by decide +kernel
theorem dX1_init_28 : decode cX1_init 28 = .ok (.dup, 1) := by decide +kernel
theorem dX1_init_29 : decode cX1_init 29 = .ok (.invokespecial 19, 3) := by decide +kernel
theorem dX1_init_32 : decode cX1_init 32 = .ok (.putfield 24, 3) := by decide +kernel
theorem dX1_init_35 : decode cX1_init 35 = .ok (.aload_n 0, 1) := by decide +kernel
theorem dX1_init_36 : decode cX1_init 36 = .ok (.bipush 14, 2) := by decide +kernel
theorem dX1_init_38 : decode cX1_init 38 = .ok (.newarray .int, 2) := by decide +kernel
theorem dX1_init_40 : decode cX1_init 40 = .ok (.putfield 27, 3) := by decide +kernel
theorem dX1_init_43 : decode cX1_init 43 = .ok (.aload_n 0, 1) := by decide +kernel
theorem dX1_init_44 : decode cX1_init 44 = .ok (.bipush 14, 2) := by decide +kernel
theorem dX1_init_46 : decode cX1_init 46 = .ok (.newarray .int, 2) := by decide +kernel
theorem dX1_init_48 : decode cX1_init 48 = .ok (.putfield 31, 3) := by decide +kernel
theorem dX1_init_51 : decode cX1_init 51 = .ok (.aload_n 0, 1) := by decide +kernel
theorem dX1_init_52 : decode cX1_init 52 = .ok (.bipush 14, 2) := by decide +kernel
theorem dX1_init_54 : decode cX1_init 54 = .ok (.newarray .int, 2) := by decide +kernel
theorem dX1_init_56 : decode cX1_init 56 = .ok (.putfield 34, 3) := by decide +kernel
theorem dX1_init_59 : decode cX1_init 59 = .ok (.aload_n 0, 1) := by decide +kernel
theorem dX1_init_60 : decode cX1_init 60 = .ok (.bipush 14, 2) := by decide +kernel
theorem dX1_init_62 : decode cX1_init 62 = .ok (.newarray .int, 2) := by decide +kernel
theorem dX1_init_64 : decode cX1_init 64 = .ok (.putfield 37, 3) := by decide +kernel
theorem dX1_init_67 : decode cX1_init 67 = .ok (.iconst 0, 1) := by decide +kernel
theorem dX1_init_68 : decode cX1_init 68 = .ok (.istore_n 1, 1) := by decide +kernel
theorem dX1_init_69 : decode cX1_init 69 = .ok (.iload_n 1, 1) := by decide +kernel
theorem dX1_init_70 : decode cX1_init 70 = .ok (.bipush 12, 2) := by decide +kernel
theorem dX1_init_72 : decode cX1_init 72 = .ok (.if_icmp .ge 22, 3) := by decide +kernel
theorem dX1_init_75 : decode cX1_init 75 = .ok (.aload_n 0, 1) := by decide +kernel
theorem dX1_init_76 : decode cX1_init 76 = .ok (.getfield 11, 3) := by decide +kernel
theorem dX1_init_79 : decode cX1_init 79 = .ok (.iload_n 1, 1) := by decide +kernel
theorem dX1_init_80 : decode cX1_init 80 = .ok (.new 9, 3) := by decide +kernel
theorem dX1_init_83 : decode cX1_init 83 = .ok (.dup, 1) := by decide +kernel
theorem dX1_init_84 : decode cX1_init 84 = .ok (.invokespecial 40, 3) := by decide +kernel
theorem dX1_init_87 : decode cX1_init 87 = .ok (.aastore, 1) := by decide +kernel
theorem dX1_init_88 : decode cX1_init 88 = .ok (.iinc 1 1, 3) := by decide +kernel
theorem dX1_init_91 : decode cX1_init 91 = .ok (.goto (-22), 3) := by decide +kernel
theorem dX1_init_94 : decode cX1_init 94 = .ok (.return_, 1) := by decide +kernel
theorem dX2_init_0 : decode cX2_init 0 = .ok (.aload_n 0, 1) := by decide +kernel
theorem dX2_init_1 : decode cX2_init 1 = .ok (.invokespecial 3, 3) := by decide +kernel
theorem dX2_init_4 : decode cX2_init 4 = .ok (.aload_n 0, 1) := by decide +kernel
theorem dX2_init_5 : decode cX2_init 5 = .ok (.bipush 8, 2) := by decide +kernel
theorem dX2_init_7 : decode cX2_init 7 = .ok (.newarray .int, 2) := by decide +kernel
theorem dX2_init_9 : decode cX2_init 9 = .ok (.putfield 9, 3) := by decide +kernel
theorem dX2_init_12 : decode cX2_init 12 = .ok (.return_, 1) := by decide +kernel
theorem dX6_init_0 : decode cX6_init 0 = .ok (.aload_n 0, 1) := by decide +kernel
theorem dX6_init_1 : decode cX6_init 1 = .ok (.invokespecial 3, 3) := by decide +kernel
theorem dX6_init_4 : decode cX6_init 4 = .ok (.return_, 1) := by decide +kernel
end
section
theorem flX1_11 : FL RX1 11 0 12 (.array (.object "BillRegistry$Step")) true := ⟨RX1, TX1, 19, tyX1, rfl, by decide, TB_t 186 (by decide +kernel) rfl, inX1, tyX1_ok, nmX1, rfl, rfl⟩
theorem mlX1_19 : MLIN RX1 19 yX2_init cX2_init 1 0 := ⟨by decide, TB_t 47 (by decide +kernel) rfl, TB_t 4 (by decide +kernel) rfl, ⟨by decide, by decide, by decide +kernel⟩, TB_t 46 (by decide +kernel) rfl, rfl⟩
theorem mlX1_40 : MLIN RX1 40 yX6_init cX6_init 1 0 := ⟨by decide, TB_t 90 (by decide +kernel) rfl, TB_t 5 (by decide +kernel) rfl, ⟨by decide, by decide, by decide +kernel⟩, TB_t 89 (by decide +kernel) rfl, rfl⟩
theorem nlX1_17 : NL RX1 17 1 8 [.int 0, .int 0, .int 0, .int 0, .int 0, .int 0, .int 0, .null] := ⟨RX2, TX2, tyX2, rfl, TB_t 43 (by decide +kernel) rfl, TB_t 44 (by decide +kernel) rfl, TB_t 4 (by decide +kernel) rfl, inX2, tyX2_ok, by decide⟩
theorem nlX1_9 : NL RX1 9 5 11 [.int 0, .int 0, .int 0, .int 0, .int 0, .int 0, .int 0, .int 0, .int 0, .int 0, .int 0] := ⟨RX6, TX6, tyX6, rfl, TB_t 41 (by decide +kernel) rfl, TB_t 87 (by decide +kernel) rfl, TB_t 5 (by decide +kernel) rfl, inX6, tyX6_ok, by decide⟩
theorem w_ac0 : Cond.arrayClass .int ∈ TB := TB_t 85 (by decide +kernel) rfl
theorem w_oc : Cond.code objectInit ⟨#[0xb1]⟩ 1 none ∈ TB := TB_t 27 (by decide +kernel) rfl
theorem w_oi : Cond.instanceMethod objectInit ∈ TB := TB_t 26 (by decide +kernel) rfl
theorem wcX1_9 : Cond.classLink RX1 9 RX6 ∈ TB := TB_t 41 (by decide +kernel) rfl
theorem wlX1_3 : Cond.methodLink RX1 3 objectInit ∈ TB := TB_t 40 (by decide +kernel) rfl
theorem wlX2_3 : Cond.methodLink RX2 3 objectInit ∈ TB := TB_t 48 (by decide +kernel) rfl
theorem wlX6_3 : Cond.methodLink RX6 3 objectInit ∈ TB := TB_t 91 (by decide +kernel) rfl
end
section
set_option maxHeartbeats 4000000 in
set_option maxRecDepth 100000 in
theorem c_X6_init {l : Launch} {D : va_G} {kA : Nat → ClassId} {M : mM} {T : mT} {sz : Nat} {h : Nat} (hc_h : M h = some (.inr (5, [.int 0, .int 0, .int 0, .int 0, .int 0, .int 0, .int 0, .int 0, .int 0, .int 0, .int 0]))) : mCv l yX6_init cX6_init 1 1 0 0 D kA M T sz [.ref h] (fun u => (True) ∧ u.2 = T ∧ u.1 = M) := by
  unfold mCv
  refine start_W (by decide) (Nat.le_of_ble_eq_true rfl) ?_
  intro p e s m below meth c ls hC hr hlk hnm hK hH hsz hl
  have hx := hC.1
  have hb := hC.2.1
  have hl : lv_has ls 1 [(0, .ref h)] := hl
  refine lv_aload_n hx hb dX6_init_0 rfl (lv_at hl 0 rfl) ?_
  refine W.objInit hx hb hC.2.2.2.1 (hC.2.2.2.2 _ wlX6_3) (hC.2.2.2.2 _ w_oi) (hC.2.2.2.2 _ w_oc) rfl (by rw [hC.2.2.1]; exact hl.1) rfl dX6_init_1 (Nat.le_of_ble_eq_true rfl) (Nat.le_of_ble_eq_true rfl) ?_
  refine W.eq (g2 := F0 m 4 ls []) rfl ?_
  exact ret_v hC hr hlk hK hH (⟨trivial, rfl, rfl⟩) (Nat.le_of_ble_eq_true rfl) (Nat.le_of_ble_eq_true rfl) dX6_init_4
set_option maxHeartbeats 4000000 in
set_option maxRecDepth 100000 in
theorem c_X2_init {l : Launch} {D : va_G} {kA : Nat → ClassId} {M : mM} {T : mT} {sz h : Nat} (hc_h : M h = some (.inr (1, [.int 0, .int 0, .int 0, .int 0, .int 0, .int 0, .int 0, .null]))) (hlt : h < sz) : mCv l yX2_init cX2_init 1 1 1 8 D kA M T sz [.ref h] (fun u => u.1 h = none ∧ u.2 h = some 1 ∧ (∀ a t, T a = some t → u.2 a = some t) ∧ ∀ a, a ≠ h → a < sz → u.1 a = M a) := by
  unfold mCv
  refine start_W (by decide) (Nat.le_of_ble_eq_true rfl) ?_
  intro p e s m below meth c ls hC hr hlk hnm hK hH hsz hl
  have hx := hC.1
  have hb := hC.2.1
  have hl : lv_has ls 1 [(0, .ref h)] := hl
  have hF : ∀ a, a ≠ h → a < sz → M a = M a := fun a _ _ => rfl
  have hTT : ∀ a t, T a = some t → T a = some t := fun _ _ h => h
  refine lv_aload_n hx hb dX2_init_0 rfl (lv_at hl 0 rfl) ?_
  refine W.objInit hx hb hC.2.2.2.1 (hC.2.2.2.2 _ wlX2_3) (hC.2.2.2.2 _ w_oi) (hC.2.2.2.2 _ w_oc) rfl (by rw [hC.2.2.1]; exact hl.1) rfl dX2_init_1 (Nat.le_of_ble_eq_true rfl) (Nat.le_of_ble_eq_true rfl) ?_
  refine W.eq (g2 := F0 m 4 ls []) rfl ?_
  refine lv_aload_n hx hb dX2_init_4 rfl (lv_at hl 0 rfl) ?_
  refine lv_bipush (v := 8) hx hb dX2_init_5 (by decide) ?_
  refine ynewa (atype := .int) (ck := 0) (N := 8) (a0 := (8, .inl (fun _ => 0))) hC hK hH rfl w_ac0 rfl (fun _ h => by cases h) (fun _ => rfl) (by decide) (by decide) (by decide) (Nat.le_of_ble_eq_true rfl) (Nat.le_of_ble_eq_true rfl) dX2_init_7 (fun q1 H M2 e_q1 hz nM_q1 nT_q1 hc_q1 hfr hN => ?_)
  have g_q1 : sz ≤ q1 := by rw [← hsz, e_q1]; exact hH.2.1.1
  have n_h_q1 : h ≠ q1 := neN hc_h nM_q1
  have n_q1_h : q1 ≠ h := Ne.symm n_h_q1
  have hH := hN
  have hc_q1 : M2 q1 = some (.inl (kA 0, 8, .inl (fun _ => 0))) := hc_q1
  have hc_h : M2 h = some (.inr (1, [.int 0, .int 0, .int 0, .int 0, .int 0, .int 0, .int 0, .null])) := (hfr h n_h_q1).trans hc_h
  have hF : ∀ a, a ≠ h → a < sz → M2 a = M a := fun a h0 h1 => (hfr a (Nat.ne_of_lt (Nat.lt_of_lt_of_le h1 g_q1))).trans (hF a h0 h1)
  refine ypF (v := .ref q1) hC hK hH hnm (fun _ _ _ h => by cases h; rfl) flX2_9 hc_h rfl rfl (Nat.le_of_ble_eq_true rfl) dX2_init_9 (fun H locs M3 hc_h hfr hH => ?_)
  have hc_h : M3 h = some (.inr (1, [.int 0, .int 0, .int 0, .int 0, .int 0, .int 0, .int 0, .ref q1])) := hc_h
  have hc_q1 : M3 q1 = some (.inl (kA 0, 8, .inl (fun _ => 0))) := (hfr q1 n_q1_h).trans hc_q1
  have hF : ∀ a, a ≠ h → a < sz → M3 a = M a := fun a h0 h1 => (hfr a h0).trans (hF a h0 h1)
  obtain ⟨M4, T5, nM_q1, hfr, t_q1, hfT, hsub, hH⟩ := hH.re2 (τ := 3) hc_q1 (conf_i rfl (fun _ _ => iRg _))
  have hc_h : M4 h = some (.inr (1, [.int 0, .int 0, .int 0, .int 0, .int 0, .int 0, .int 0, .ref q1])) := (hfr h n_h_q1).trans hc_h
  have hTT : ∀ a t, T a = some t → T5 a = some t := fun a t h => hsub _ _ (hTT a t h)
  have hF : ∀ a, a ≠ h → a < sz → M4 a = M a := fun a h0 h1 => (hfr a (Nat.ne_of_lt (Nat.lt_of_lt_of_le h1 g_q1))).trans (hF a h0 h1)
  obtain ⟨M6, T7, nM_h, hfr, t_h, hfT, hsub, hH⟩ := hH.re2 (τ := 1) hc_h (conf_o rfl ⟨okI (by decide) (by decide), okI (by decide) (by decide), okI (by decide) (by decide), okI (by decide) (by decide), okI (by decide) (by decide), okI (by decide) (by decide), okI (by decide) (by decide), okR (by rw [upN _ _ (fun z => by rw [z] at t_q1; rw [hH.1.TN (by rw [hc_h]; simp)] at t_q1; cases t_q1)]; exact t_q1), trivial⟩)
  have t_q1 : T7 q1 = some 3 := hsub _ _ t_q1
  have hTT : ∀ a t, T a = some t → T7 a = some t := fun a t h => hsub _ _ (hTT a t h)
  have hF : ∀ a, a ≠ h → a < sz → M6 a = M a := fun a h0 h1 => (hfr a h0).trans (hF a h0 h1)
  exact ret_v hC hr hlk hK hH (⟨nM_h, t_h, hTT, hF⟩) (Nat.le_of_ble_eq_true rfl) (Nat.le_of_ble_eq_true rfl) dX2_init_12
set_option maxHeartbeats 4000000 in
set_option maxRecDepth 100000 in
theorem c_X1_init {l : Launch} {D : va_G} {kA : Nat → ClassId} {M : mM} {T : mT} {sz h : Nat} (hc_h : M h = some (.inr (0, [.int 0, .int 0, .int 0, .int 0, .int 0, .int 0, .int 0, .int 0, .int 0, .int 0, .int 0, .int 0, .null, .null, .null, .null, .null, .null, .null]))) (hlt : h < sz) : mCv l yX1_init cX1_init 2 2 21 232 D kA M T sz [.ref h] (fun u => u.1 h = none ∧ u.2 h = some 2 ∧ (∀ a t, T a = some t → u.2 a = some t) ∧ ∀ a, a ≠ h → a < sz → u.1 a = M a) := by
  unfold mCv
  refine start_W (by decide) (Nat.le_of_ble_eq_true rfl) ?_
  intro p e s m below meth c ls hC hr hlk hnm hK hH hsz hl
  have hx := hC.1
  have hb := hC.2.1
  have hl : lv_has ls 2 [(0, .ref h)] := hl
  have hF : ∀ a, a ≠ h → a < sz → M a = M a := fun a _ _ => rfl
  have hTT : ∀ a t, T a = some t → T a = some t := fun _ _ h => h
  refine lv_aload_n hx hb dX1_init_0 rfl (lv_at hl 0 rfl) ?_
  refine W.objInit hx hb hC.2.2.2.1 (hC.2.2.2.2 _ wlX1_3) (hC.2.2.2.2 _ w_oi) (hC.2.2.2.2 _ w_oc) rfl (by rw [hC.2.2.1]; exact hl.1) rfl dX1_init_1 (Nat.le_of_ble_eq_true rfl) (Nat.le_of_ble_eq_true rfl) ?_
  refine W.eq (g2 := F0 m 4 ls []) rfl ?_
  refine lv_aload_n hx hb dX1_init_4 rfl (lv_at hl 0 rfl) ?_
  refine lv_bipush (v := 12) hx hb dX1_init_5 (by decide) ?_
  refine ynewq (ck := 3) (N := 12) hC hK hH wcX1_9 (by decide) rfl (by decide) (by decide) (by decide) (Nat.le_of_ble_eq_true rfl) (Nat.le_of_ble_eq_true rfl) dX1_init_7 (fun q1 H M2 e_q1 hz nM_q1 nT_q1 hc_q1 hfr hN => ?_)
  have g_q1 : sz ≤ q1 := by rw [← hsz, e_q1]; exact hH.2.1.1
  have n_h_q1 : h ≠ q1 := neN hc_h nM_q1
  have n_q1_h : q1 ≠ h := Ne.symm n_h_q1
  have hH := hN
  have hc_q1 : M2 q1 = some (.inl (kA 3, 12, .inr (.inr (.inr (.inr (fun _ => none)))))) := hc_q1
  have hc_h : M2 h = some (.inr (0, [.int 0, .int 0, .int 0, .int 0, .int 0, .int 0, .int 0, .int 0, .int 0, .int 0, .int 0, .int 0, .null, .null, .null, .null, .null, .null, .null])) := (hfr h n_h_q1).trans hc_h
  have hF : ∀ a, a ≠ h → a < sz → M2 a = M a := fun a h0 h1 => (hfr a (Nat.ne_of_lt (Nat.lt_of_lt_of_le h1 g_q1))).trans (hF a h0 h1)
  refine ypF (v := .ref q1) hC hK hH hnm (fun _ _ _ h => by cases h; rfl) flX1_11 hc_h rfl rfl (Nat.le_of_ble_eq_true rfl) dX1_init_10 (fun H locs M3 hc_h hfr hH => ?_)
  have hc_h : M3 h = some (.inr (0, [.int 0, .int 0, .int 0, .int 0, .int 0, .int 0, .int 0, .int 0, .int 0, .int 0, .int 0, .int 0, .ref q1, .null, .null, .null, .null, .null, .null])) := hc_h
  have hc_q1 : M3 q1 = some (.inl (kA 3, 12, .inr (.inr (.inr (.inr (fun _ => none)))))) := (hfr q1 n_q1_h).trans hc_q1
  have hF : ∀ a, a ≠ h → a < sz → M3 a = M a := fun a h0 h1 => (hfr a h0).trans (hF a h0 h1)
  refine lv_aload_n hx hb dX1_init_13 rfl (lv_at hl 0 rfl) ?_
  refine ynew hC hK hH nlX1_17 (Nat.le_of_ble_eq_true rfl) (Nat.le_of_ble_eq_true rfl) dX1_init_14 (fun q4 H M5 e_q4 hz nM_q4 nT_q4 hc_q4 hfr hN => ?_)
  have g_q4 : sz ≤ q4 := by rw [← hsz, e_q4]; exact hH.2.1.1
  have n_h_q4 : h ≠ q4 := neN hc_h nM_q4
  have n_q4_h : q4 ≠ h := Ne.symm n_h_q4
  have n_q1_q4 : q1 ≠ q4 := neN hc_q1 nM_q4
  have n_q4_q1 : q4 ≠ q1 := Ne.symm n_q1_q4
  have hH := hN
  have hc_q4 : M5 q4 = some (.inr (1, [.int 0, .int 0, .int 0, .int 0, .int 0, .int 0, .int 0, .null])) := hc_q4
  have hc_h : M5 h = some (.inr (0, [.int 0, .int 0, .int 0, .int 0, .int 0, .int 0, .int 0, .int 0, .int 0, .int 0, .int 0, .int 0, .ref q1, .null, .null, .null, .null, .null, .null])) := (hfr h n_h_q4).trans hc_h
  have hc_q1 : M5 q1 = some (.inl (kA 3, 12, .inr (.inr (.inr (.inr (fun _ => none)))))) := (hfr q1 n_q1_q4).trans hc_q1
  have hF : ∀ a, a ≠ h → a < sz → M5 a = M a := fun a h0 h1 => (hfr a (Nat.ne_of_lt (Nat.lt_of_lt_of_le h1 g_q4))).trans (hF a h0 h1)
  refine lv_dup hx hb dX1_init_17 rfl ?_
  have lt_q4 : q4 < Array.size H := hH.1.ltM (by rw [hc_q4]; simp)
  have gH : sz ≤ Array.size H := by rw [← hsz]; exact hH.2.1.1
  have lt_h : h < Array.size H := hH.1.ltM (by rw [hc_h]; simp)
  have lt_q1 : q1 < Array.size H := hH.1.ltM (by rw [hc_q1]; simp)
  have lt_q4 : q4 < Array.size H := hH.1.ltM (by rw [hc_q4]; simp)
  refine goV hK hH (runIN (As := []) (rest := [.ref q4, .ref h]) hC hK hH (c_X2_init hc_q4 lt_q4) mlX1_19 ⟨⟨Nat.le_of_ble_eq_true rfl, Nat.le_of_ble_eq_true rfl⟩, Nat.le_of_ble_eq_true rfl, Nat.le_of_ble_eq_true rfl⟩ rfl hl.1 rfl (Nat.le_of_ble_eq_true rfl) dX1_init_18) (fun M6 T7 H locs hP hz hH => ?_)
  try dsimp only at hP
  obtain ⟨nM_q4, t_q4, hsub, hfr⟩ := hP
  have hc_h : M6 h = some (.inr (0, [.int 0, .int 0, .int 0, .int 0, .int 0, .int 0, .int 0, .int 0, .int 0, .int 0, .int 0, .int 0, .ref q1, .null, .null, .null, .null, .null, .null])) := (hfr h n_h_q4 lt_h).trans hc_h
  have hc_q1 : M6 q1 = some (.inl (kA 3, 12, .inr (.inr (.inr (.inr (fun _ => none)))))) := (hfr q1 n_q1_q4 lt_q1).trans hc_q1
  have hTT : ∀ a t, T a = some t → T7 a = some t := fun a t h => hsub _ _ (hTT a t h)
  have hF : ∀ a, a ≠ h → a < sz → M6 a = M a := fun a h0 h1 => (hfr a (Nat.ne_of_lt (Nat.lt_of_lt_of_le h1 g_q4)) (Nat.lt_of_lt_of_le h1 gH)).trans (hF a h0 h1)
  refine ypF (v := .ref q4) hC hK hH hnm (fun _ _ _ h => by cases h; rfl) flX1_20 hc_h rfl rfl (Nat.le_of_ble_eq_true rfl) dX1_init_21 (fun H locs M8 hc_h hfr hH => ?_)
  have hc_h : M8 h = some (.inr (0, [.int 0, .int 0, .int 0, .int 0, .int 0, .int 0, .int 0, .int 0, .int 0, .int 0, .int 0, .int 0, .ref q1, .ref q4, .null, .null, .null, .null, .null])) := hc_h
  have hc_q1 : M8 q1 = some (.inl (kA 3, 12, .inr (.inr (.inr (.inr (fun _ => none)))))) := (hfr q1 n_q1_h).trans hc_q1
  have hF : ∀ a, a ≠ h → a < sz → M8 a = M a := fun a h0 h1 => (hfr a h0).trans (hF a h0 h1)
  refine lv_aload_n hx hb dX1_init_24 rfl (lv_at hl 0 rfl) ?_
  refine ynew hC hK hH nlX1_17 (Nat.le_of_ble_eq_true rfl) (Nat.le_of_ble_eq_true rfl) dX1_init_25 (fun q9 H M10 e_q9 hz nM_q9 nT_q9 hc_q9 hfr hN => ?_)
  have g_q9 : sz ≤ q9 := by rw [← hsz, e_q9]; exact hH.2.1.1
  have n_h_q9 : h ≠ q9 := neN hc_h nM_q9
  have n_q9_h : q9 ≠ h := Ne.symm n_h_q9
  have n_q1_q9 : q1 ≠ q9 := neN hc_q1 nM_q9
  have n_q9_q1 : q9 ≠ q1 := Ne.symm n_q1_q9
  have hH := hN
  have hc_q9 : M10 q9 = some (.inr (1, [.int 0, .int 0, .int 0, .int 0, .int 0, .int 0, .int 0, .null])) := hc_q9
  have hc_h : M10 h = some (.inr (0, [.int 0, .int 0, .int 0, .int 0, .int 0, .int 0, .int 0, .int 0, .int 0, .int 0, .int 0, .int 0, .ref q1, .ref q4, .null, .null, .null, .null, .null])) := (hfr h n_h_q9).trans hc_h
  have hc_q1 : M10 q1 = some (.inl (kA 3, 12, .inr (.inr (.inr (.inr (fun _ => none)))))) := (hfr q1 n_q1_q9).trans hc_q1
  have hF : ∀ a, a ≠ h → a < sz → M10 a = M a := fun a h0 h1 => (hfr a (Nat.ne_of_lt (Nat.lt_of_lt_of_le h1 g_q9))).trans (hF a h0 h1)
  refine lv_dup hx hb dX1_init_28 rfl ?_
  have lt_q9 : q9 < Array.size H := hH.1.ltM (by rw [hc_q9]; simp)
  have gH : sz ≤ Array.size H := by rw [← hsz]; exact hH.2.1.1
  have lt_h : h < Array.size H := hH.1.ltM (by rw [hc_h]; simp)
  have lt_q1 : q1 < Array.size H := hH.1.ltM (by rw [hc_q1]; simp)
  have lt_q9 : q9 < Array.size H := hH.1.ltM (by rw [hc_q9]; simp)
  refine goV hK hH (runIN (As := []) (rest := [.ref q9, .ref h]) hC hK hH (c_X2_init hc_q9 lt_q9) mlX1_19 ⟨⟨Nat.le_of_ble_eq_true rfl, Nat.le_of_ble_eq_true rfl⟩, Nat.le_of_ble_eq_true rfl, Nat.le_of_ble_eq_true rfl⟩ rfl hl.1 rfl (Nat.le_of_ble_eq_true rfl) dX1_init_29) (fun M11 T12 H locs hP hz hH => ?_)
  try dsimp only at hP
  obtain ⟨nM_q9, t_q9, hsub, hfr⟩ := hP
  have hc_h : M11 h = some (.inr (0, [.int 0, .int 0, .int 0, .int 0, .int 0, .int 0, .int 0, .int 0, .int 0, .int 0, .int 0, .int 0, .ref q1, .ref q4, .null, .null, .null, .null, .null])) := (hfr h n_h_q9 lt_h).trans hc_h
  have hc_q1 : M11 q1 = some (.inl (kA 3, 12, .inr (.inr (.inr (.inr (fun _ => none)))))) := (hfr q1 n_q1_q9 lt_q1).trans hc_q1
  have t_q4 : T12 q4 = some 1 := hsub _ _ t_q4
  have hTT : ∀ a t, T a = some t → T12 a = some t := fun a t h => hsub _ _ (hTT a t h)
  have hF : ∀ a, a ≠ h → a < sz → M11 a = M a := fun a h0 h1 => (hfr a (Nat.ne_of_lt (Nat.lt_of_lt_of_le h1 g_q9)) (Nat.lt_of_lt_of_le h1 gH)).trans (hF a h0 h1)
  refine ypF (v := .ref q9) hC hK hH hnm (fun _ _ _ h => by cases h; rfl) flX1_24 hc_h rfl rfl (Nat.le_of_ble_eq_true rfl) dX1_init_32 (fun H locs M13 hc_h hfr hH => ?_)
  have hc_h : M13 h = some (.inr (0, [.int 0, .int 0, .int 0, .int 0, .int 0, .int 0, .int 0, .int 0, .int 0, .int 0, .int 0, .int 0, .ref q1, .ref q4, .ref q9, .null, .null, .null, .null])) := hc_h
  have hc_q1 : M13 q1 = some (.inl (kA 3, 12, .inr (.inr (.inr (.inr (fun _ => none)))))) := (hfr q1 n_q1_h).trans hc_q1
  have hF : ∀ a, a ≠ h → a < sz → M13 a = M a := fun a h0 h1 => (hfr a h0).trans (hF a h0 h1)
  refine lv_aload_n hx hb dX1_init_35 rfl (lv_at hl 0 rfl) ?_
  refine lv_bipush (v := 14) hx hb dX1_init_36 (by decide) ?_
  refine ynewa (atype := .int) (ck := 0) (N := 14) (a0 := (14, .inl (fun _ => 0))) hC hK hH rfl w_ac0 rfl (fun _ h => by cases h) (fun _ => rfl) (by decide) (by decide) (by decide) (Nat.le_of_ble_eq_true rfl) (Nat.le_of_ble_eq_true rfl) dX1_init_38 (fun q14 H M15 e_q14 hz nM_q14 nT_q14 hc_q14 hfr hN => ?_)
  have g_q14 : sz ≤ q14 := by rw [← hsz, e_q14]; exact hH.2.1.1
  have n_h_q14 : h ≠ q14 := neN hc_h nM_q14
  have n_q14_h : q14 ≠ h := Ne.symm n_h_q14
  have n_q1_q14 : q1 ≠ q14 := neN hc_q1 nM_q14
  have n_q14_q1 : q14 ≠ q1 := Ne.symm n_q1_q14
  have hH := hN
  have hc_q14 : M15 q14 = some (.inl (kA 0, 14, .inl (fun _ => 0))) := hc_q14
  have hc_h : M15 h = some (.inr (0, [.int 0, .int 0, .int 0, .int 0, .int 0, .int 0, .int 0, .int 0, .int 0, .int 0, .int 0, .int 0, .ref q1, .ref q4, .ref q9, .null, .null, .null, .null])) := (hfr h n_h_q14).trans hc_h
  have hc_q1 : M15 q1 = some (.inl (kA 3, 12, .inr (.inr (.inr (.inr (fun _ => none)))))) := (hfr q1 n_q1_q14).trans hc_q1
  have hF : ∀ a, a ≠ h → a < sz → M15 a = M a := fun a h0 h1 => (hfr a (Nat.ne_of_lt (Nat.lt_of_lt_of_le h1 g_q14))).trans (hF a h0 h1)
  refine ypF (v := .ref q14) hC hK hH hnm (fun _ _ _ h => by cases h; rfl) flX1_27 hc_h rfl rfl (Nat.le_of_ble_eq_true rfl) dX1_init_40 (fun H locs M16 hc_h hfr hH => ?_)
  have hc_h : M16 h = some (.inr (0, [.int 0, .int 0, .int 0, .int 0, .int 0, .int 0, .int 0, .int 0, .int 0, .int 0, .int 0, .int 0, .ref q1, .ref q4, .ref q9, .ref q14, .null, .null, .null])) := hc_h
  have hc_q1 : M16 q1 = some (.inl (kA 3, 12, .inr (.inr (.inr (.inr (fun _ => none)))))) := (hfr q1 n_q1_h).trans hc_q1
  have hc_q14 : M16 q14 = some (.inl (kA 0, 14, .inl (fun _ => 0))) := (hfr q14 n_q14_h).trans hc_q14
  have hF : ∀ a, a ≠ h → a < sz → M16 a = M a := fun a h0 h1 => (hfr a h0).trans (hF a h0 h1)
  refine lv_aload_n hx hb dX1_init_43 rfl (lv_at hl 0 rfl) ?_
  refine lv_bipush (v := 14) hx hb dX1_init_44 (by decide) ?_
  refine ynewa (atype := .int) (ck := 0) (N := 14) (a0 := (14, .inl (fun _ => 0))) hC hK hH rfl w_ac0 rfl (fun _ h => by cases h) (fun _ => rfl) (by decide) (by decide) (by decide) (Nat.le_of_ble_eq_true rfl) (Nat.le_of_ble_eq_true rfl) dX1_init_46 (fun q17 H M18 e_q17 hz nM_q17 nT_q17 hc_q17 hfr hN => ?_)
  have g_q17 : sz ≤ q17 := by rw [← hsz, e_q17]; exact hH.2.1.1
  have n_h_q17 : h ≠ q17 := neN hc_h nM_q17
  have n_q17_h : q17 ≠ h := Ne.symm n_h_q17
  have n_q1_q17 : q1 ≠ q17 := neN hc_q1 nM_q17
  have n_q17_q1 : q17 ≠ q1 := Ne.symm n_q1_q17
  have n_q14_q17 : q14 ≠ q17 := neN hc_q14 nM_q17
  have n_q17_q14 : q17 ≠ q14 := Ne.symm n_q14_q17
  have hH := hN
  have hc_q17 : M18 q17 = some (.inl (kA 0, 14, .inl (fun _ => 0))) := hc_q17
  have hc_h : M18 h = some (.inr (0, [.int 0, .int 0, .int 0, .int 0, .int 0, .int 0, .int 0, .int 0, .int 0, .int 0, .int 0, .int 0, .ref q1, .ref q4, .ref q9, .ref q14, .null, .null, .null])) := (hfr h n_h_q17).trans hc_h
  have hc_q1 : M18 q1 = some (.inl (kA 3, 12, .inr (.inr (.inr (.inr (fun _ => none)))))) := (hfr q1 n_q1_q17).trans hc_q1
  have hc_q14 : M18 q14 = some (.inl (kA 0, 14, .inl (fun _ => 0))) := (hfr q14 n_q14_q17).trans hc_q14
  have hF : ∀ a, a ≠ h → a < sz → M18 a = M a := fun a h0 h1 => (hfr a (Nat.ne_of_lt (Nat.lt_of_lt_of_le h1 g_q17))).trans (hF a h0 h1)
  refine ypF (v := .ref q17) hC hK hH hnm (fun _ _ _ h => by cases h; rfl) flX1_31 hc_h rfl rfl (Nat.le_of_ble_eq_true rfl) dX1_init_48 (fun H locs M19 hc_h hfr hH => ?_)
  have hc_h : M19 h = some (.inr (0, [.int 0, .int 0, .int 0, .int 0, .int 0, .int 0, .int 0, .int 0, .int 0, .int 0, .int 0, .int 0, .ref q1, .ref q4, .ref q9, .ref q14, .ref q17, .null, .null])) := hc_h
  have hc_q1 : M19 q1 = some (.inl (kA 3, 12, .inr (.inr (.inr (.inr (fun _ => none)))))) := (hfr q1 n_q1_h).trans hc_q1
  have hc_q14 : M19 q14 = some (.inl (kA 0, 14, .inl (fun _ => 0))) := (hfr q14 n_q14_h).trans hc_q14
  have hc_q17 : M19 q17 = some (.inl (kA 0, 14, .inl (fun _ => 0))) := (hfr q17 n_q17_h).trans hc_q17
  have hF : ∀ a, a ≠ h → a < sz → M19 a = M a := fun a h0 h1 => (hfr a h0).trans (hF a h0 h1)
  refine lv_aload_n hx hb dX1_init_51 rfl (lv_at hl 0 rfl) ?_
  refine lv_bipush (v := 14) hx hb dX1_init_52 (by decide) ?_
  refine ynewa (atype := .int) (ck := 0) (N := 14) (a0 := (14, .inl (fun _ => 0))) hC hK hH rfl w_ac0 rfl (fun _ h => by cases h) (fun _ => rfl) (by decide) (by decide) (by decide) (Nat.le_of_ble_eq_true rfl) (Nat.le_of_ble_eq_true rfl) dX1_init_54 (fun q20 H M21 e_q20 hz nM_q20 nT_q20 hc_q20 hfr hN => ?_)
  have g_q20 : sz ≤ q20 := by rw [← hsz, e_q20]; exact hH.2.1.1
  have n_h_q20 : h ≠ q20 := neN hc_h nM_q20
  have n_q20_h : q20 ≠ h := Ne.symm n_h_q20
  have n_q1_q20 : q1 ≠ q20 := neN hc_q1 nM_q20
  have n_q20_q1 : q20 ≠ q1 := Ne.symm n_q1_q20
  have n_q14_q20 : q14 ≠ q20 := neN hc_q14 nM_q20
  have n_q20_q14 : q20 ≠ q14 := Ne.symm n_q14_q20
  have n_q17_q20 : q17 ≠ q20 := neN hc_q17 nM_q20
  have n_q20_q17 : q20 ≠ q17 := Ne.symm n_q17_q20
  have hH := hN
  have hc_q20 : M21 q20 = some (.inl (kA 0, 14, .inl (fun _ => 0))) := hc_q20
  have hc_h : M21 h = some (.inr (0, [.int 0, .int 0, .int 0, .int 0, .int 0, .int 0, .int 0, .int 0, .int 0, .int 0, .int 0, .int 0, .ref q1, .ref q4, .ref q9, .ref q14, .ref q17, .null, .null])) := (hfr h n_h_q20).trans hc_h
  have hc_q1 : M21 q1 = some (.inl (kA 3, 12, .inr (.inr (.inr (.inr (fun _ => none)))))) := (hfr q1 n_q1_q20).trans hc_q1
  have hc_q14 : M21 q14 = some (.inl (kA 0, 14, .inl (fun _ => 0))) := (hfr q14 n_q14_q20).trans hc_q14
  have hc_q17 : M21 q17 = some (.inl (kA 0, 14, .inl (fun _ => 0))) := (hfr q17 n_q17_q20).trans hc_q17
  have hF : ∀ a, a ≠ h → a < sz → M21 a = M a := fun a h0 h1 => (hfr a (Nat.ne_of_lt (Nat.lt_of_lt_of_le h1 g_q20))).trans (hF a h0 h1)
  refine ypF (v := .ref q20) hC hK hH hnm (fun _ _ _ h => by cases h; rfl) flX1_34 hc_h rfl rfl (Nat.le_of_ble_eq_true rfl) dX1_init_56 (fun H locs M22 hc_h hfr hH => ?_)
  have hc_h : M22 h = some (.inr (0, [.int 0, .int 0, .int 0, .int 0, .int 0, .int 0, .int 0, .int 0, .int 0, .int 0, .int 0, .int 0, .ref q1, .ref q4, .ref q9, .ref q14, .ref q17, .ref q20, .null])) := hc_h
  have hc_q1 : M22 q1 = some (.inl (kA 3, 12, .inr (.inr (.inr (.inr (fun _ => none)))))) := (hfr q1 n_q1_h).trans hc_q1
  have hc_q14 : M22 q14 = some (.inl (kA 0, 14, .inl (fun _ => 0))) := (hfr q14 n_q14_h).trans hc_q14
  have hc_q17 : M22 q17 = some (.inl (kA 0, 14, .inl (fun _ => 0))) := (hfr q17 n_q17_h).trans hc_q17
  have hc_q20 : M22 q20 = some (.inl (kA 0, 14, .inl (fun _ => 0))) := (hfr q20 n_q20_h).trans hc_q20
  have hF : ∀ a, a ≠ h → a < sz → M22 a = M a := fun a h0 h1 => (hfr a h0).trans (hF a h0 h1)
  refine lv_aload_n hx hb dX1_init_59 rfl (lv_at hl 0 rfl) ?_
  refine lv_bipush (v := 14) hx hb dX1_init_60 (by decide) ?_
  refine ynewa (atype := .int) (ck := 0) (N := 14) (a0 := (14, .inl (fun _ => 0))) hC hK hH rfl w_ac0 rfl (fun _ h => by cases h) (fun _ => rfl) (by decide) (by decide) (by decide) (Nat.le_of_ble_eq_true rfl) (Nat.le_of_ble_eq_true rfl) dX1_init_62 (fun q23 H M24 e_q23 hz nM_q23 nT_q23 hc_q23 hfr hN => ?_)
  have g_q23 : sz ≤ q23 := by rw [← hsz, e_q23]; exact hH.2.1.1
  have n_h_q23 : h ≠ q23 := neN hc_h nM_q23
  have n_q23_h : q23 ≠ h := Ne.symm n_h_q23
  have n_q1_q23 : q1 ≠ q23 := neN hc_q1 nM_q23
  have n_q23_q1 : q23 ≠ q1 := Ne.symm n_q1_q23
  have n_q14_q23 : q14 ≠ q23 := neN hc_q14 nM_q23
  have n_q23_q14 : q23 ≠ q14 := Ne.symm n_q14_q23
  have n_q17_q23 : q17 ≠ q23 := neN hc_q17 nM_q23
  have n_q23_q17 : q23 ≠ q17 := Ne.symm n_q17_q23
  have n_q20_q23 : q20 ≠ q23 := neN hc_q20 nM_q23
  have n_q23_q20 : q23 ≠ q20 := Ne.symm n_q20_q23
  have hH := hN
  have hc_q23 : M24 q23 = some (.inl (kA 0, 14, .inl (fun _ => 0))) := hc_q23
  have hc_h : M24 h = some (.inr (0, [.int 0, .int 0, .int 0, .int 0, .int 0, .int 0, .int 0, .int 0, .int 0, .int 0, .int 0, .int 0, .ref q1, .ref q4, .ref q9, .ref q14, .ref q17, .ref q20, .null])) := (hfr h n_h_q23).trans hc_h
  have hc_q1 : M24 q1 = some (.inl (kA 3, 12, .inr (.inr (.inr (.inr (fun _ => none)))))) := (hfr q1 n_q1_q23).trans hc_q1
  have hc_q14 : M24 q14 = some (.inl (kA 0, 14, .inl (fun _ => 0))) := (hfr q14 n_q14_q23).trans hc_q14
  have hc_q17 : M24 q17 = some (.inl (kA 0, 14, .inl (fun _ => 0))) := (hfr q17 n_q17_q23).trans hc_q17
  have hc_q20 : M24 q20 = some (.inl (kA 0, 14, .inl (fun _ => 0))) := (hfr q20 n_q20_q23).trans hc_q20
  have hF : ∀ a, a ≠ h → a < sz → M24 a = M a := fun a h0 h1 => (hfr a (Nat.ne_of_lt (Nat.lt_of_lt_of_le h1 g_q23))).trans (hF a h0 h1)
  refine ypF (v := .ref q23) hC hK hH hnm (fun _ _ _ h => by cases h; rfl) flX1_37 hc_h rfl rfl (Nat.le_of_ble_eq_true rfl) dX1_init_64 (fun H locs M25 hc_h hfr hH => ?_)
  have hc_h : M25 h = some (.inr (0, [.int 0, .int 0, .int 0, .int 0, .int 0, .int 0, .int 0, .int 0, .int 0, .int 0, .int 0, .int 0, .ref q1, .ref q4, .ref q9, .ref q14, .ref q17, .ref q20, .ref q23])) := hc_h
  have hc_q1 : M25 q1 = some (.inl (kA 3, 12, .inr (.inr (.inr (.inr (fun _ => none)))))) := (hfr q1 n_q1_h).trans hc_q1
  have hc_q14 : M25 q14 = some (.inl (kA 0, 14, .inl (fun _ => 0))) := (hfr q14 n_q14_h).trans hc_q14
  have hc_q17 : M25 q17 = some (.inl (kA 0, 14, .inl (fun _ => 0))) := (hfr q17 n_q17_h).trans hc_q17
  have hc_q20 : M25 q20 = some (.inl (kA 0, 14, .inl (fun _ => 0))) := (hfr q20 n_q20_h).trans hc_q20
  have hc_q23 : M25 q23 = some (.inl (kA 0, 14, .inl (fun _ => 0))) := (hfr q23 n_q23_h).trans hc_q23
  have hF : ∀ a, a ≠ h → a < sz → M25 a = M a := fun a h0 h1 => (hfr a h0).trans (hF a h0 h1)
  refine lv_iconst (v := 0) hx hb dX1_init_67 (by decide) ?_
  refine lv_istore_n (lv' := [(1, .int 0), (0, .ref h)]) hx hb dX1_init_68 rfl hl (by decide) rfl (fun ls hl => ?_)
  refine lv_iload_n hx hb dX1_init_69 rfl (lv_at hl 0 rfl) ?_
  refine lv_bipush (v := 12) hx hb dX1_init_70 (by decide) ?_
  refine jic_ge (tgt := 94) hx hb dX1_init_72 (by decide) (fun c26 => absurd c26 (by decide)) (fun c26 => ?_)
  refine lv_aload_n hx hb dX1_init_75 rfl (lv_at hl 1 rfl) ?_
  refine xg hC hK hH flX1_11 hc_h rfl dX1_init_76 ?_
  refine lv_iload_n hx hb dX1_init_79 rfl (lv_at hl 0 rfl) ?_
  refine ynew hC hK hH nlX1_9 (Nat.le_of_ble_eq_true rfl) (Nat.le_of_ble_eq_true rfl) dX1_init_80 (fun q27 H M28 e_q27 hz nM_q27 nT_q27 hc_q27 hfr hN => ?_)
  have g_q27 : sz ≤ q27 := by rw [← hsz, e_q27]; exact hH.2.1.1
  have n_h_q27 : h ≠ q27 := neN hc_h nM_q27
  have n_q27_h : q27 ≠ h := Ne.symm n_h_q27
  have n_q1_q27 : q1 ≠ q27 := neN hc_q1 nM_q27
  have n_q27_q1 : q27 ≠ q1 := Ne.symm n_q1_q27
  have n_q14_q27 : q14 ≠ q27 := neN hc_q14 nM_q27
  have n_q27_q14 : q27 ≠ q14 := Ne.symm n_q14_q27
  have n_q17_q27 : q17 ≠ q27 := neN hc_q17 nM_q27
  have n_q27_q17 : q27 ≠ q17 := Ne.symm n_q17_q27
  have n_q20_q27 : q20 ≠ q27 := neN hc_q20 nM_q27
  have n_q27_q20 : q27 ≠ q20 := Ne.symm n_q20_q27
  have n_q23_q27 : q23 ≠ q27 := neN hc_q23 nM_q27
  have n_q27_q23 : q27 ≠ q23 := Ne.symm n_q23_q27
  have hH := hN
  have hc_q27 : M28 q27 = some (.inr (5, [.int 0, .int 0, .int 0, .int 0, .int 0, .int 0, .int 0, .int 0, .int 0, .int 0, .int 0])) := hc_q27
  have hc_h : M28 h = some (.inr (0, [.int 0, .int 0, .int 0, .int 0, .int 0, .int 0, .int 0, .int 0, .int 0, .int 0, .int 0, .int 0, .ref q1, .ref q4, .ref q9, .ref q14, .ref q17, .ref q20, .ref q23])) := (hfr h n_h_q27).trans hc_h
  have hc_q1 : M28 q1 = some (.inl (kA 3, 12, .inr (.inr (.inr (.inr (fun _ => none)))))) := (hfr q1 n_q1_q27).trans hc_q1
  have hc_q14 : M28 q14 = some (.inl (kA 0, 14, .inl (fun _ => 0))) := (hfr q14 n_q14_q27).trans hc_q14
  have hc_q17 : M28 q17 = some (.inl (kA 0, 14, .inl (fun _ => 0))) := (hfr q17 n_q17_q27).trans hc_q17
  have hc_q20 : M28 q20 = some (.inl (kA 0, 14, .inl (fun _ => 0))) := (hfr q20 n_q20_q27).trans hc_q20
  have hc_q23 : M28 q23 = some (.inl (kA 0, 14, .inl (fun _ => 0))) := (hfr q23 n_q23_q27).trans hc_q23
  have hF : ∀ a, a ≠ h → a < sz → M28 a = M a := fun a h0 h1 => (hfr a (Nat.ne_of_lt (Nat.lt_of_lt_of_le h1 g_q27))).trans (hF a h0 h1)
  refine lv_dup hx hb dX1_init_83 rfl ?_
  refine goV hK hH (runIN (As := []) (rest := [.ref q27, .int 0, .ref q1]) hC hK hH (c_X6_init hc_q27) mlX1_40 ⟨⟨Nat.le_of_ble_eq_true rfl, Nat.le_of_ble_eq_true rfl⟩, Nat.le_of_ble_eq_true rfl, Nat.le_of_ble_eq_true rfl⟩ rfl hl.1 rfl (Nat.le_of_ble_eq_true rfl) dX1_init_84) (fun M29 T30 H locs hP hz hH => ?_)
  try dsimp only at hP
  obtain ⟨(-), eT, eM⟩ := hP
  have eT := eT.symm; subst eT
  have eM := eM.symm; subst eM
  obtain ⟨M32, T33, nM_q27, hfr, t_q27, hfT, hsub, hH⟩ := hH.re2 (τ := 0) hc_q27 (conf_o rfl ⟨okI (by decide) (by decide), okI (by decide) (by decide), okI (by decide) (by decide), okI (by decide) (by decide), okI (by decide) (by decide), okI (by decide) (by decide), okI (by decide) (by decide), okI (by decide) (by decide), okI (by decide) (by decide), okI (by decide) (by decide), okI (by decide) (by decide), trivial⟩)
  have hc_h : M32 h = some (.inr (0, [.int 0, .int 0, .int 0, .int 0, .int 0, .int 0, .int 0, .int 0, .int 0, .int 0, .int 0, .int 0, .ref q1, .ref q4, .ref q9, .ref q14, .ref q17, .ref q20, .ref q23])) := (hfr h n_h_q27).trans hc_h
  have hc_q1 : M32 q1 = some (.inl (kA 3, 12, .inr (.inr (.inr (.inr (fun _ => none)))))) := (hfr q1 n_q1_q27).trans hc_q1
  have hc_q14 : M32 q14 = some (.inl (kA 0, 14, .inl (fun _ => 0))) := (hfr q14 n_q14_q27).trans hc_q14
  have hc_q17 : M32 q17 = some (.inl (kA 0, 14, .inl (fun _ => 0))) := (hfr q17 n_q17_q27).trans hc_q17
  have hc_q20 : M32 q20 = some (.inl (kA 0, 14, .inl (fun _ => 0))) := (hfr q20 n_q20_q27).trans hc_q20
  have hc_q23 : M32 q23 = some (.inl (kA 0, 14, .inl (fun _ => 0))) := (hfr q23 n_q23_q27).trans hc_q23
  have t_q4 : T33 q4 = some 1 := hsub _ _ t_q4
  have t_q9 : T33 q9 = some 1 := hsub _ _ t_q9
  have hTT : ∀ a t, T a = some t → T33 a = some t := fun a t h => hsub _ _ (hTT a t h)
  have hF : ∀ a, a ≠ h → a < sz → M32 a = M a := fun a h0 h1 => (hfr a (Nat.ne_of_lt (Nat.lt_of_lt_of_le h1 g_q27))).trans (hF a h0 h1)
  refine yqst (ck := 3) (cv := 5) (v := q27) hC hK hH rfl rfl hc_q1 (let ⟨fs, h1, _⟩ := tcell hH t_q27 rfl; ⟨fs, h1⟩) (iIn (by decide) (by decide)) dX1_init_87 (fun H locs M34 hc_q1 hfr hH => ?_)
  have hc_q1 : M34 q1 = some (.inl (kA 3, 12, .inr (.inr (.inr (.inr (va_up (fun _ => none) (Int32.toNatClampNeg 0) (some q27))))))) := hc_q1
  have hc_h : M34 h = some (.inr (0, [.int 0, .int 0, .int 0, .int 0, .int 0, .int 0, .int 0, .int 0, .int 0, .int 0, .int 0, .int 0, .ref q1, .ref q4, .ref q9, .ref q14, .ref q17, .ref q20, .ref q23])) := (hfr h n_h_q1).trans hc_h
  have hc_q14 : M34 q14 = some (.inl (kA 0, 14, .inl (fun _ => 0))) := (hfr q14 n_q14_q1).trans hc_q14
  have hc_q17 : M34 q17 = some (.inl (kA 0, 14, .inl (fun _ => 0))) := (hfr q17 n_q17_q1).trans hc_q17
  have hc_q20 : M34 q20 = some (.inl (kA 0, 14, .inl (fun _ => 0))) := (hfr q20 n_q20_q1).trans hc_q20
  have hc_q23 : M34 q23 = some (.inl (kA 0, 14, .inl (fun _ => 0))) := (hfr q23 n_q23_q1).trans hc_q23
  have hF : ∀ a, a ≠ h → a < sz → M34 a = M a := fun a h0 h1 => (hfr a (Nat.ne_of_lt (Nat.lt_of_lt_of_le h1 g_q1))).trans (hF a h0 h1)
  refine lv_iinc (v := 1) (lv' := [(1, .int 1), (0, .ref h)]) hx hb dX1_init_88 hl (k := 0) rfl (by decide) (by decide) rfl (fun ls hl => ?_)
  refine lv_goto (tgt := 69) hx hb dX1_init_91 (by decide) ?_
  refine lv_iload_n hx hb dX1_init_69 rfl (lv_at hl 0 rfl) ?_
  refine lv_bipush (v := 12) hx hb dX1_init_70 (by decide) ?_
  refine jic_ge (tgt := 94) hx hb dX1_init_72 (by decide) (fun c35 => absurd c35 (by decide)) (fun c35 => ?_)
  refine lv_aload_n hx hb dX1_init_75 rfl (lv_at hl 1 rfl) ?_
  refine xg hC hK hH flX1_11 hc_h rfl dX1_init_76 ?_
  refine lv_iload_n hx hb dX1_init_79 rfl (lv_at hl 0 rfl) ?_
  refine ynew hC hK hH nlX1_9 (Nat.le_of_ble_eq_true rfl) (Nat.le_of_ble_eq_true rfl) dX1_init_80 (fun q36 H M37 e_q36 hz nM_q36 nT_q36 hc_q36 hfr hN => ?_)
  have g_q36 : sz ≤ q36 := by rw [← hsz, e_q36]; exact hH.2.1.1
  have n_h_q36 : h ≠ q36 := neN hc_h nM_q36
  have n_q36_h : q36 ≠ h := Ne.symm n_h_q36
  have n_q1_q36 : q1 ≠ q36 := neN hc_q1 nM_q36
  have n_q36_q1 : q36 ≠ q1 := Ne.symm n_q1_q36
  have n_q14_q36 : q14 ≠ q36 := neN hc_q14 nM_q36
  have n_q36_q14 : q36 ≠ q14 := Ne.symm n_q14_q36
  have n_q17_q36 : q17 ≠ q36 := neN hc_q17 nM_q36
  have n_q36_q17 : q36 ≠ q17 := Ne.symm n_q17_q36
  have n_q20_q36 : q20 ≠ q36 := neN hc_q20 nM_q36
  have n_q36_q20 : q36 ≠ q20 := Ne.symm n_q20_q36
  have n_q23_q36 : q23 ≠ q36 := neN hc_q23 nM_q36
  have n_q36_q23 : q36 ≠ q23 := Ne.symm n_q23_q36
  have hH := hN
  have hc_q36 : M37 q36 = some (.inr (5, [.int 0, .int 0, .int 0, .int 0, .int 0, .int 0, .int 0, .int 0, .int 0, .int 0, .int 0])) := hc_q36
  have hc_h : M37 h = some (.inr (0, [.int 0, .int 0, .int 0, .int 0, .int 0, .int 0, .int 0, .int 0, .int 0, .int 0, .int 0, .int 0, .ref q1, .ref q4, .ref q9, .ref q14, .ref q17, .ref q20, .ref q23])) := (hfr h n_h_q36).trans hc_h
  have hc_q1 : M37 q1 = some (.inl (kA 3, 12, .inr (.inr (.inr (.inr (va_up (fun _ => none) (Int32.toNatClampNeg 0) (some q27))))))) := (hfr q1 n_q1_q36).trans hc_q1
  have hc_q14 : M37 q14 = some (.inl (kA 0, 14, .inl (fun _ => 0))) := (hfr q14 n_q14_q36).trans hc_q14
  have hc_q17 : M37 q17 = some (.inl (kA 0, 14, .inl (fun _ => 0))) := (hfr q17 n_q17_q36).trans hc_q17
  have hc_q20 : M37 q20 = some (.inl (kA 0, 14, .inl (fun _ => 0))) := (hfr q20 n_q20_q36).trans hc_q20
  have hc_q23 : M37 q23 = some (.inl (kA 0, 14, .inl (fun _ => 0))) := (hfr q23 n_q23_q36).trans hc_q23
  have hF : ∀ a, a ≠ h → a < sz → M37 a = M a := fun a h0 h1 => (hfr a (Nat.ne_of_lt (Nat.lt_of_lt_of_le h1 g_q36))).trans (hF a h0 h1)
  refine lv_dup hx hb dX1_init_83 rfl ?_
  refine goV hK hH (runIN (As := []) (rest := [.ref q36, .int 1, .ref q1]) hC hK hH (c_X6_init hc_q36) mlX1_40 ⟨⟨Nat.le_of_ble_eq_true rfl, Nat.le_of_ble_eq_true rfl⟩, Nat.le_of_ble_eq_true rfl, Nat.le_of_ble_eq_true rfl⟩ rfl hl.1 rfl (Nat.le_of_ble_eq_true rfl) dX1_init_84) (fun M38 T39 H locs hP hz hH => ?_)
  try dsimp only at hP
  obtain ⟨(-), eT, eM⟩ := hP
  have eT := eT.symm; subst eT
  have eM := eM.symm; subst eM
  obtain ⟨M41, T42, nM_q36, hfr, t_q36, hfT, hsub, hH⟩ := hH.re2 (τ := 0) hc_q36 (conf_o rfl ⟨okI (by decide) (by decide), okI (by decide) (by decide), okI (by decide) (by decide), okI (by decide) (by decide), okI (by decide) (by decide), okI (by decide) (by decide), okI (by decide) (by decide), okI (by decide) (by decide), okI (by decide) (by decide), okI (by decide) (by decide), okI (by decide) (by decide), trivial⟩)
  have hc_h : M41 h = some (.inr (0, [.int 0, .int 0, .int 0, .int 0, .int 0, .int 0, .int 0, .int 0, .int 0, .int 0, .int 0, .int 0, .ref q1, .ref q4, .ref q9, .ref q14, .ref q17, .ref q20, .ref q23])) := (hfr h n_h_q36).trans hc_h
  have hc_q1 : M41 q1 = some (.inl (kA 3, 12, .inr (.inr (.inr (.inr (va_up (fun _ => none) (Int32.toNatClampNeg 0) (some q27))))))) := (hfr q1 n_q1_q36).trans hc_q1
  have hc_q14 : M41 q14 = some (.inl (kA 0, 14, .inl (fun _ => 0))) := (hfr q14 n_q14_q36).trans hc_q14
  have hc_q17 : M41 q17 = some (.inl (kA 0, 14, .inl (fun _ => 0))) := (hfr q17 n_q17_q36).trans hc_q17
  have hc_q20 : M41 q20 = some (.inl (kA 0, 14, .inl (fun _ => 0))) := (hfr q20 n_q20_q36).trans hc_q20
  have hc_q23 : M41 q23 = some (.inl (kA 0, 14, .inl (fun _ => 0))) := (hfr q23 n_q23_q36).trans hc_q23
  have t_q4 : T42 q4 = some 1 := hsub _ _ t_q4
  have t_q9 : T42 q9 = some 1 := hsub _ _ t_q9
  have t_q27 : T42 q27 = some 0 := hsub _ _ t_q27
  have hTT : ∀ a t, T a = some t → T42 a = some t := fun a t h => hsub _ _ (hTT a t h)
  have hF : ∀ a, a ≠ h → a < sz → M41 a = M a := fun a h0 h1 => (hfr a (Nat.ne_of_lt (Nat.lt_of_lt_of_le h1 g_q36))).trans (hF a h0 h1)
  refine yqst (ck := 3) (cv := 5) (v := q36) hC hK hH rfl rfl hc_q1 (let ⟨fs, h1, _⟩ := tcell hH t_q36 rfl; ⟨fs, h1⟩) (iIn (by decide) (by decide)) dX1_init_87 (fun H locs M43 hc_q1 hfr hH => ?_)
  have hc_q1 : M43 q1 = some (.inl (kA 3, 12, .inr (.inr (.inr (.inr (va_up (va_up (fun _ => none) (Int32.toNatClampNeg 0) (some q27)) (Int32.toNatClampNeg 1) (some q36))))))) := hc_q1
  have hc_h : M43 h = some (.inr (0, [.int 0, .int 0, .int 0, .int 0, .int 0, .int 0, .int 0, .int 0, .int 0, .int 0, .int 0, .int 0, .ref q1, .ref q4, .ref q9, .ref q14, .ref q17, .ref q20, .ref q23])) := (hfr h n_h_q1).trans hc_h
  have hc_q14 : M43 q14 = some (.inl (kA 0, 14, .inl (fun _ => 0))) := (hfr q14 n_q14_q1).trans hc_q14
  have hc_q17 : M43 q17 = some (.inl (kA 0, 14, .inl (fun _ => 0))) := (hfr q17 n_q17_q1).trans hc_q17
  have hc_q20 : M43 q20 = some (.inl (kA 0, 14, .inl (fun _ => 0))) := (hfr q20 n_q20_q1).trans hc_q20
  have hc_q23 : M43 q23 = some (.inl (kA 0, 14, .inl (fun _ => 0))) := (hfr q23 n_q23_q1).trans hc_q23
  have hF : ∀ a, a ≠ h → a < sz → M43 a = M a := fun a h0 h1 => (hfr a (Nat.ne_of_lt (Nat.lt_of_lt_of_le h1 g_q1))).trans (hF a h0 h1)
  refine lv_iinc (v := 2) (lv' := [(1, .int 2), (0, .ref h)]) hx hb dX1_init_88 hl (k := 0) rfl (by decide) (by decide) rfl (fun ls hl => ?_)
  refine lv_goto (tgt := 69) hx hb dX1_init_91 (by decide) ?_
  refine lv_iload_n hx hb dX1_init_69 rfl (lv_at hl 0 rfl) ?_
  refine lv_bipush (v := 12) hx hb dX1_init_70 (by decide) ?_
  refine jic_ge (tgt := 94) hx hb dX1_init_72 (by decide) (fun c44 => absurd c44 (by decide)) (fun c44 => ?_)
  refine lv_aload_n hx hb dX1_init_75 rfl (lv_at hl 1 rfl) ?_
  refine xg hC hK hH flX1_11 hc_h rfl dX1_init_76 ?_
  refine lv_iload_n hx hb dX1_init_79 rfl (lv_at hl 0 rfl) ?_
  refine ynew hC hK hH nlX1_9 (Nat.le_of_ble_eq_true rfl) (Nat.le_of_ble_eq_true rfl) dX1_init_80 (fun q45 H M46 e_q45 hz nM_q45 nT_q45 hc_q45 hfr hN => ?_)
  have g_q45 : sz ≤ q45 := by rw [← hsz, e_q45]; exact hH.2.1.1
  have n_h_q45 : h ≠ q45 := neN hc_h nM_q45
  have n_q45_h : q45 ≠ h := Ne.symm n_h_q45
  have n_q1_q45 : q1 ≠ q45 := neN hc_q1 nM_q45
  have n_q45_q1 : q45 ≠ q1 := Ne.symm n_q1_q45
  have n_q14_q45 : q14 ≠ q45 := neN hc_q14 nM_q45
  have n_q45_q14 : q45 ≠ q14 := Ne.symm n_q14_q45
  have n_q17_q45 : q17 ≠ q45 := neN hc_q17 nM_q45
  have n_q45_q17 : q45 ≠ q17 := Ne.symm n_q17_q45
  have n_q20_q45 : q20 ≠ q45 := neN hc_q20 nM_q45
  have n_q45_q20 : q45 ≠ q20 := Ne.symm n_q20_q45
  have n_q23_q45 : q23 ≠ q45 := neN hc_q23 nM_q45
  have n_q45_q23 : q45 ≠ q23 := Ne.symm n_q23_q45
  have hH := hN
  have hc_q45 : M46 q45 = some (.inr (5, [.int 0, .int 0, .int 0, .int 0, .int 0, .int 0, .int 0, .int 0, .int 0, .int 0, .int 0])) := hc_q45
  have hc_h : M46 h = some (.inr (0, [.int 0, .int 0, .int 0, .int 0, .int 0, .int 0, .int 0, .int 0, .int 0, .int 0, .int 0, .int 0, .ref q1, .ref q4, .ref q9, .ref q14, .ref q17, .ref q20, .ref q23])) := (hfr h n_h_q45).trans hc_h
  have hc_q1 : M46 q1 = some (.inl (kA 3, 12, .inr (.inr (.inr (.inr (va_up (va_up (fun _ => none) (Int32.toNatClampNeg 0) (some q27)) (Int32.toNatClampNeg 1) (some q36))))))) := (hfr q1 n_q1_q45).trans hc_q1
  have hc_q14 : M46 q14 = some (.inl (kA 0, 14, .inl (fun _ => 0))) := (hfr q14 n_q14_q45).trans hc_q14
  have hc_q17 : M46 q17 = some (.inl (kA 0, 14, .inl (fun _ => 0))) := (hfr q17 n_q17_q45).trans hc_q17
  have hc_q20 : M46 q20 = some (.inl (kA 0, 14, .inl (fun _ => 0))) := (hfr q20 n_q20_q45).trans hc_q20
  have hc_q23 : M46 q23 = some (.inl (kA 0, 14, .inl (fun _ => 0))) := (hfr q23 n_q23_q45).trans hc_q23
  have hF : ∀ a, a ≠ h → a < sz → M46 a = M a := fun a h0 h1 => (hfr a (Nat.ne_of_lt (Nat.lt_of_lt_of_le h1 g_q45))).trans (hF a h0 h1)
  refine lv_dup hx hb dX1_init_83 rfl ?_
  refine goV hK hH (runIN (As := []) (rest := [.ref q45, .int 2, .ref q1]) hC hK hH (c_X6_init hc_q45) mlX1_40 ⟨⟨Nat.le_of_ble_eq_true rfl, Nat.le_of_ble_eq_true rfl⟩, Nat.le_of_ble_eq_true rfl, Nat.le_of_ble_eq_true rfl⟩ rfl hl.1 rfl (Nat.le_of_ble_eq_true rfl) dX1_init_84) (fun M47 T48 H locs hP hz hH => ?_)
  try dsimp only at hP
  obtain ⟨(-), eT, eM⟩ := hP
  have eT := eT.symm; subst eT
  have eM := eM.symm; subst eM
  obtain ⟨M50, T51, nM_q45, hfr, t_q45, hfT, hsub, hH⟩ := hH.re2 (τ := 0) hc_q45 (conf_o rfl ⟨okI (by decide) (by decide), okI (by decide) (by decide), okI (by decide) (by decide), okI (by decide) (by decide), okI (by decide) (by decide), okI (by decide) (by decide), okI (by decide) (by decide), okI (by decide) (by decide), okI (by decide) (by decide), okI (by decide) (by decide), okI (by decide) (by decide), trivial⟩)
  have hc_h : M50 h = some (.inr (0, [.int 0, .int 0, .int 0, .int 0, .int 0, .int 0, .int 0, .int 0, .int 0, .int 0, .int 0, .int 0, .ref q1, .ref q4, .ref q9, .ref q14, .ref q17, .ref q20, .ref q23])) := (hfr h n_h_q45).trans hc_h
  have hc_q1 : M50 q1 = some (.inl (kA 3, 12, .inr (.inr (.inr (.inr (va_up (va_up (fun _ => none) (Int32.toNatClampNeg 0) (some q27)) (Int32.toNatClampNeg 1) (some q36))))))) := (hfr q1 n_q1_q45).trans hc_q1
  have hc_q14 : M50 q14 = some (.inl (kA 0, 14, .inl (fun _ => 0))) := (hfr q14 n_q14_q45).trans hc_q14
  have hc_q17 : M50 q17 = some (.inl (kA 0, 14, .inl (fun _ => 0))) := (hfr q17 n_q17_q45).trans hc_q17
  have hc_q20 : M50 q20 = some (.inl (kA 0, 14, .inl (fun _ => 0))) := (hfr q20 n_q20_q45).trans hc_q20
  have hc_q23 : M50 q23 = some (.inl (kA 0, 14, .inl (fun _ => 0))) := (hfr q23 n_q23_q45).trans hc_q23
  have t_q4 : T51 q4 = some 1 := hsub _ _ t_q4
  have t_q9 : T51 q9 = some 1 := hsub _ _ t_q9
  have t_q27 : T51 q27 = some 0 := hsub _ _ t_q27
  have t_q36 : T51 q36 = some 0 := hsub _ _ t_q36
  have hTT : ∀ a t, T a = some t → T51 a = some t := fun a t h => hsub _ _ (hTT a t h)
  have hF : ∀ a, a ≠ h → a < sz → M50 a = M a := fun a h0 h1 => (hfr a (Nat.ne_of_lt (Nat.lt_of_lt_of_le h1 g_q45))).trans (hF a h0 h1)
  refine yqst (ck := 3) (cv := 5) (v := q45) hC hK hH rfl rfl hc_q1 (let ⟨fs, h1, _⟩ := tcell hH t_q45 rfl; ⟨fs, h1⟩) (iIn (by decide) (by decide)) dX1_init_87 (fun H locs M52 hc_q1 hfr hH => ?_)
  have hc_q1 : M52 q1 = some (.inl (kA 3, 12, .inr (.inr (.inr (.inr (va_up (va_up (va_up (fun _ => none) (Int32.toNatClampNeg 0) (some q27)) (Int32.toNatClampNeg 1) (some q36)) (Int32.toNatClampNeg 2) (some q45))))))) := hc_q1
  have hc_h : M52 h = some (.inr (0, [.int 0, .int 0, .int 0, .int 0, .int 0, .int 0, .int 0, .int 0, .int 0, .int 0, .int 0, .int 0, .ref q1, .ref q4, .ref q9, .ref q14, .ref q17, .ref q20, .ref q23])) := (hfr h n_h_q1).trans hc_h
  have hc_q14 : M52 q14 = some (.inl (kA 0, 14, .inl (fun _ => 0))) := (hfr q14 n_q14_q1).trans hc_q14
  have hc_q17 : M52 q17 = some (.inl (kA 0, 14, .inl (fun _ => 0))) := (hfr q17 n_q17_q1).trans hc_q17
  have hc_q20 : M52 q20 = some (.inl (kA 0, 14, .inl (fun _ => 0))) := (hfr q20 n_q20_q1).trans hc_q20
  have hc_q23 : M52 q23 = some (.inl (kA 0, 14, .inl (fun _ => 0))) := (hfr q23 n_q23_q1).trans hc_q23
  have hF : ∀ a, a ≠ h → a < sz → M52 a = M a := fun a h0 h1 => (hfr a (Nat.ne_of_lt (Nat.lt_of_lt_of_le h1 g_q1))).trans (hF a h0 h1)
  refine lv_iinc (v := 3) (lv' := [(1, .int 3), (0, .ref h)]) hx hb dX1_init_88 hl (k := 0) rfl (by decide) (by decide) rfl (fun ls hl => ?_)
  refine lv_goto (tgt := 69) hx hb dX1_init_91 (by decide) ?_
  refine lv_iload_n hx hb dX1_init_69 rfl (lv_at hl 0 rfl) ?_
  refine lv_bipush (v := 12) hx hb dX1_init_70 (by decide) ?_
  refine jic_ge (tgt := 94) hx hb dX1_init_72 (by decide) (fun c53 => absurd c53 (by decide)) (fun c53 => ?_)
  refine lv_aload_n hx hb dX1_init_75 rfl (lv_at hl 1 rfl) ?_
  refine xg hC hK hH flX1_11 hc_h rfl dX1_init_76 ?_
  refine lv_iload_n hx hb dX1_init_79 rfl (lv_at hl 0 rfl) ?_
  refine ynew hC hK hH nlX1_9 (Nat.le_of_ble_eq_true rfl) (Nat.le_of_ble_eq_true rfl) dX1_init_80 (fun q54 H M55 e_q54 hz nM_q54 nT_q54 hc_q54 hfr hN => ?_)
  have g_q54 : sz ≤ q54 := by rw [← hsz, e_q54]; exact hH.2.1.1
  have n_h_q54 : h ≠ q54 := neN hc_h nM_q54
  have n_q54_h : q54 ≠ h := Ne.symm n_h_q54
  have n_q1_q54 : q1 ≠ q54 := neN hc_q1 nM_q54
  have n_q54_q1 : q54 ≠ q1 := Ne.symm n_q1_q54
  have n_q14_q54 : q14 ≠ q54 := neN hc_q14 nM_q54
  have n_q54_q14 : q54 ≠ q14 := Ne.symm n_q14_q54
  have n_q17_q54 : q17 ≠ q54 := neN hc_q17 nM_q54
  have n_q54_q17 : q54 ≠ q17 := Ne.symm n_q17_q54
  have n_q20_q54 : q20 ≠ q54 := neN hc_q20 nM_q54
  have n_q54_q20 : q54 ≠ q20 := Ne.symm n_q20_q54
  have n_q23_q54 : q23 ≠ q54 := neN hc_q23 nM_q54
  have n_q54_q23 : q54 ≠ q23 := Ne.symm n_q23_q54
  have hH := hN
  have hc_q54 : M55 q54 = some (.inr (5, [.int 0, .int 0, .int 0, .int 0, .int 0, .int 0, .int 0, .int 0, .int 0, .int 0, .int 0])) := hc_q54
  have hc_h : M55 h = some (.inr (0, [.int 0, .int 0, .int 0, .int 0, .int 0, .int 0, .int 0, .int 0, .int 0, .int 0, .int 0, .int 0, .ref q1, .ref q4, .ref q9, .ref q14, .ref q17, .ref q20, .ref q23])) := (hfr h n_h_q54).trans hc_h
  have hc_q1 : M55 q1 = some (.inl (kA 3, 12, .inr (.inr (.inr (.inr (va_up (va_up (va_up (fun _ => none) (Int32.toNatClampNeg 0) (some q27)) (Int32.toNatClampNeg 1) (some q36)) (Int32.toNatClampNeg 2) (some q45))))))) := (hfr q1 n_q1_q54).trans hc_q1
  have hc_q14 : M55 q14 = some (.inl (kA 0, 14, .inl (fun _ => 0))) := (hfr q14 n_q14_q54).trans hc_q14
  have hc_q17 : M55 q17 = some (.inl (kA 0, 14, .inl (fun _ => 0))) := (hfr q17 n_q17_q54).trans hc_q17
  have hc_q20 : M55 q20 = some (.inl (kA 0, 14, .inl (fun _ => 0))) := (hfr q20 n_q20_q54).trans hc_q20
  have hc_q23 : M55 q23 = some (.inl (kA 0, 14, .inl (fun _ => 0))) := (hfr q23 n_q23_q54).trans hc_q23
  have hF : ∀ a, a ≠ h → a < sz → M55 a = M a := fun a h0 h1 => (hfr a (Nat.ne_of_lt (Nat.lt_of_lt_of_le h1 g_q54))).trans (hF a h0 h1)
  refine lv_dup hx hb dX1_init_83 rfl ?_
  refine goV hK hH (runIN (As := []) (rest := [.ref q54, .int 3, .ref q1]) hC hK hH (c_X6_init hc_q54) mlX1_40 ⟨⟨Nat.le_of_ble_eq_true rfl, Nat.le_of_ble_eq_true rfl⟩, Nat.le_of_ble_eq_true rfl, Nat.le_of_ble_eq_true rfl⟩ rfl hl.1 rfl (Nat.le_of_ble_eq_true rfl) dX1_init_84) (fun M56 T57 H locs hP hz hH => ?_)
  try dsimp only at hP
  obtain ⟨(-), eT, eM⟩ := hP
  have eT := eT.symm; subst eT
  have eM := eM.symm; subst eM
  obtain ⟨M59, T60, nM_q54, hfr, t_q54, hfT, hsub, hH⟩ := hH.re2 (τ := 0) hc_q54 (conf_o rfl ⟨okI (by decide) (by decide), okI (by decide) (by decide), okI (by decide) (by decide), okI (by decide) (by decide), okI (by decide) (by decide), okI (by decide) (by decide), okI (by decide) (by decide), okI (by decide) (by decide), okI (by decide) (by decide), okI (by decide) (by decide), okI (by decide) (by decide), trivial⟩)
  have hc_h : M59 h = some (.inr (0, [.int 0, .int 0, .int 0, .int 0, .int 0, .int 0, .int 0, .int 0, .int 0, .int 0, .int 0, .int 0, .ref q1, .ref q4, .ref q9, .ref q14, .ref q17, .ref q20, .ref q23])) := (hfr h n_h_q54).trans hc_h
  have hc_q1 : M59 q1 = some (.inl (kA 3, 12, .inr (.inr (.inr (.inr (va_up (va_up (va_up (fun _ => none) (Int32.toNatClampNeg 0) (some q27)) (Int32.toNatClampNeg 1) (some q36)) (Int32.toNatClampNeg 2) (some q45))))))) := (hfr q1 n_q1_q54).trans hc_q1
  have hc_q14 : M59 q14 = some (.inl (kA 0, 14, .inl (fun _ => 0))) := (hfr q14 n_q14_q54).trans hc_q14
  have hc_q17 : M59 q17 = some (.inl (kA 0, 14, .inl (fun _ => 0))) := (hfr q17 n_q17_q54).trans hc_q17
  have hc_q20 : M59 q20 = some (.inl (kA 0, 14, .inl (fun _ => 0))) := (hfr q20 n_q20_q54).trans hc_q20
  have hc_q23 : M59 q23 = some (.inl (kA 0, 14, .inl (fun _ => 0))) := (hfr q23 n_q23_q54).trans hc_q23
  have t_q4 : T60 q4 = some 1 := hsub _ _ t_q4
  have t_q9 : T60 q9 = some 1 := hsub _ _ t_q9
  have t_q27 : T60 q27 = some 0 := hsub _ _ t_q27
  have t_q36 : T60 q36 = some 0 := hsub _ _ t_q36
  have t_q45 : T60 q45 = some 0 := hsub _ _ t_q45
  have hTT : ∀ a t, T a = some t → T60 a = some t := fun a t h => hsub _ _ (hTT a t h)
  have hF : ∀ a, a ≠ h → a < sz → M59 a = M a := fun a h0 h1 => (hfr a (Nat.ne_of_lt (Nat.lt_of_lt_of_le h1 g_q54))).trans (hF a h0 h1)
  refine yqst (ck := 3) (cv := 5) (v := q54) hC hK hH rfl rfl hc_q1 (let ⟨fs, h1, _⟩ := tcell hH t_q54 rfl; ⟨fs, h1⟩) (iIn (by decide) (by decide)) dX1_init_87 (fun H locs M61 hc_q1 hfr hH => ?_)
  have hc_q1 : M61 q1 = some (.inl (kA 3, 12, .inr (.inr (.inr (.inr (va_up (va_up (va_up (va_up (fun _ => none) (Int32.toNatClampNeg 0) (some q27)) (Int32.toNatClampNeg 1) (some q36)) (Int32.toNatClampNeg 2) (some q45)) (Int32.toNatClampNeg 3) (some q54))))))) := hc_q1
  have hc_h : M61 h = some (.inr (0, [.int 0, .int 0, .int 0, .int 0, .int 0, .int 0, .int 0, .int 0, .int 0, .int 0, .int 0, .int 0, .ref q1, .ref q4, .ref q9, .ref q14, .ref q17, .ref q20, .ref q23])) := (hfr h n_h_q1).trans hc_h
  have hc_q14 : M61 q14 = some (.inl (kA 0, 14, .inl (fun _ => 0))) := (hfr q14 n_q14_q1).trans hc_q14
  have hc_q17 : M61 q17 = some (.inl (kA 0, 14, .inl (fun _ => 0))) := (hfr q17 n_q17_q1).trans hc_q17
  have hc_q20 : M61 q20 = some (.inl (kA 0, 14, .inl (fun _ => 0))) := (hfr q20 n_q20_q1).trans hc_q20
  have hc_q23 : M61 q23 = some (.inl (kA 0, 14, .inl (fun _ => 0))) := (hfr q23 n_q23_q1).trans hc_q23
  have hF : ∀ a, a ≠ h → a < sz → M61 a = M a := fun a h0 h1 => (hfr a (Nat.ne_of_lt (Nat.lt_of_lt_of_le h1 g_q1))).trans (hF a h0 h1)
  refine lv_iinc (v := 4) (lv' := [(1, .int 4), (0, .ref h)]) hx hb dX1_init_88 hl (k := 0) rfl (by decide) (by decide) rfl (fun ls hl => ?_)
  refine lv_goto (tgt := 69) hx hb dX1_init_91 (by decide) ?_
  refine lv_iload_n hx hb dX1_init_69 rfl (lv_at hl 0 rfl) ?_
  refine lv_bipush (v := 12) hx hb dX1_init_70 (by decide) ?_
  refine jic_ge (tgt := 94) hx hb dX1_init_72 (by decide) (fun c62 => absurd c62 (by decide)) (fun c62 => ?_)
  refine lv_aload_n hx hb dX1_init_75 rfl (lv_at hl 1 rfl) ?_
  refine xg hC hK hH flX1_11 hc_h rfl dX1_init_76 ?_
  refine lv_iload_n hx hb dX1_init_79 rfl (lv_at hl 0 rfl) ?_
  refine ynew hC hK hH nlX1_9 (Nat.le_of_ble_eq_true rfl) (Nat.le_of_ble_eq_true rfl) dX1_init_80 (fun q63 H M64 e_q63 hz nM_q63 nT_q63 hc_q63 hfr hN => ?_)
  have g_q63 : sz ≤ q63 := by rw [← hsz, e_q63]; exact hH.2.1.1
  have n_h_q63 : h ≠ q63 := neN hc_h nM_q63
  have n_q63_h : q63 ≠ h := Ne.symm n_h_q63
  have n_q1_q63 : q1 ≠ q63 := neN hc_q1 nM_q63
  have n_q63_q1 : q63 ≠ q1 := Ne.symm n_q1_q63
  have n_q14_q63 : q14 ≠ q63 := neN hc_q14 nM_q63
  have n_q63_q14 : q63 ≠ q14 := Ne.symm n_q14_q63
  have n_q17_q63 : q17 ≠ q63 := neN hc_q17 nM_q63
  have n_q63_q17 : q63 ≠ q17 := Ne.symm n_q17_q63
  have n_q20_q63 : q20 ≠ q63 := neN hc_q20 nM_q63
  have n_q63_q20 : q63 ≠ q20 := Ne.symm n_q20_q63
  have n_q23_q63 : q23 ≠ q63 := neN hc_q23 nM_q63
  have n_q63_q23 : q63 ≠ q23 := Ne.symm n_q23_q63
  have hH := hN
  have hc_q63 : M64 q63 = some (.inr (5, [.int 0, .int 0, .int 0, .int 0, .int 0, .int 0, .int 0, .int 0, .int 0, .int 0, .int 0])) := hc_q63
  have hc_h : M64 h = some (.inr (0, [.int 0, .int 0, .int 0, .int 0, .int 0, .int 0, .int 0, .int 0, .int 0, .int 0, .int 0, .int 0, .ref q1, .ref q4, .ref q9, .ref q14, .ref q17, .ref q20, .ref q23])) := (hfr h n_h_q63).trans hc_h
  have hc_q1 : M64 q1 = some (.inl (kA 3, 12, .inr (.inr (.inr (.inr (va_up (va_up (va_up (va_up (fun _ => none) (Int32.toNatClampNeg 0) (some q27)) (Int32.toNatClampNeg 1) (some q36)) (Int32.toNatClampNeg 2) (some q45)) (Int32.toNatClampNeg 3) (some q54))))))) := (hfr q1 n_q1_q63).trans hc_q1
  have hc_q14 : M64 q14 = some (.inl (kA 0, 14, .inl (fun _ => 0))) := (hfr q14 n_q14_q63).trans hc_q14
  have hc_q17 : M64 q17 = some (.inl (kA 0, 14, .inl (fun _ => 0))) := (hfr q17 n_q17_q63).trans hc_q17
  have hc_q20 : M64 q20 = some (.inl (kA 0, 14, .inl (fun _ => 0))) := (hfr q20 n_q20_q63).trans hc_q20
  have hc_q23 : M64 q23 = some (.inl (kA 0, 14, .inl (fun _ => 0))) := (hfr q23 n_q23_q63).trans hc_q23
  have hF : ∀ a, a ≠ h → a < sz → M64 a = M a := fun a h0 h1 => (hfr a (Nat.ne_of_lt (Nat.lt_of_lt_of_le h1 g_q63))).trans (hF a h0 h1)
  refine lv_dup hx hb dX1_init_83 rfl ?_
  refine goV hK hH (runIN (As := []) (rest := [.ref q63, .int 4, .ref q1]) hC hK hH (c_X6_init hc_q63) mlX1_40 ⟨⟨Nat.le_of_ble_eq_true rfl, Nat.le_of_ble_eq_true rfl⟩, Nat.le_of_ble_eq_true rfl, Nat.le_of_ble_eq_true rfl⟩ rfl hl.1 rfl (Nat.le_of_ble_eq_true rfl) dX1_init_84) (fun M65 T66 H locs hP hz hH => ?_)
  try dsimp only at hP
  obtain ⟨(-), eT, eM⟩ := hP
  have eT := eT.symm; subst eT
  have eM := eM.symm; subst eM
  obtain ⟨M68, T69, nM_q63, hfr, t_q63, hfT, hsub, hH⟩ := hH.re2 (τ := 0) hc_q63 (conf_o rfl ⟨okI (by decide) (by decide), okI (by decide) (by decide), okI (by decide) (by decide), okI (by decide) (by decide), okI (by decide) (by decide), okI (by decide) (by decide), okI (by decide) (by decide), okI (by decide) (by decide), okI (by decide) (by decide), okI (by decide) (by decide), okI (by decide) (by decide), trivial⟩)
  have hc_h : M68 h = some (.inr (0, [.int 0, .int 0, .int 0, .int 0, .int 0, .int 0, .int 0, .int 0, .int 0, .int 0, .int 0, .int 0, .ref q1, .ref q4, .ref q9, .ref q14, .ref q17, .ref q20, .ref q23])) := (hfr h n_h_q63).trans hc_h
  have hc_q1 : M68 q1 = some (.inl (kA 3, 12, .inr (.inr (.inr (.inr (va_up (va_up (va_up (va_up (fun _ => none) (Int32.toNatClampNeg 0) (some q27)) (Int32.toNatClampNeg 1) (some q36)) (Int32.toNatClampNeg 2) (some q45)) (Int32.toNatClampNeg 3) (some q54))))))) := (hfr q1 n_q1_q63).trans hc_q1
  have hc_q14 : M68 q14 = some (.inl (kA 0, 14, .inl (fun _ => 0))) := (hfr q14 n_q14_q63).trans hc_q14
  have hc_q17 : M68 q17 = some (.inl (kA 0, 14, .inl (fun _ => 0))) := (hfr q17 n_q17_q63).trans hc_q17
  have hc_q20 : M68 q20 = some (.inl (kA 0, 14, .inl (fun _ => 0))) := (hfr q20 n_q20_q63).trans hc_q20
  have hc_q23 : M68 q23 = some (.inl (kA 0, 14, .inl (fun _ => 0))) := (hfr q23 n_q23_q63).trans hc_q23
  have t_q4 : T69 q4 = some 1 := hsub _ _ t_q4
  have t_q9 : T69 q9 = some 1 := hsub _ _ t_q9
  have t_q27 : T69 q27 = some 0 := hsub _ _ t_q27
  have t_q36 : T69 q36 = some 0 := hsub _ _ t_q36
  have t_q45 : T69 q45 = some 0 := hsub _ _ t_q45
  have t_q54 : T69 q54 = some 0 := hsub _ _ t_q54
  have hTT : ∀ a t, T a = some t → T69 a = some t := fun a t h => hsub _ _ (hTT a t h)
  have hF : ∀ a, a ≠ h → a < sz → M68 a = M a := fun a h0 h1 => (hfr a (Nat.ne_of_lt (Nat.lt_of_lt_of_le h1 g_q63))).trans (hF a h0 h1)
  refine yqst (ck := 3) (cv := 5) (v := q63) hC hK hH rfl rfl hc_q1 (let ⟨fs, h1, _⟩ := tcell hH t_q63 rfl; ⟨fs, h1⟩) (iIn (by decide) (by decide)) dX1_init_87 (fun H locs M70 hc_q1 hfr hH => ?_)
  have hc_q1 : M70 q1 = some (.inl (kA 3, 12, .inr (.inr (.inr (.inr (va_up (va_up (va_up (va_up (va_up (fun _ => none) (Int32.toNatClampNeg 0) (some q27)) (Int32.toNatClampNeg 1) (some q36)) (Int32.toNatClampNeg 2) (some q45)) (Int32.toNatClampNeg 3) (some q54)) (Int32.toNatClampNeg 4) (some q63))))))) := hc_q1
  have hc_h : M70 h = some (.inr (0, [.int 0, .int 0, .int 0, .int 0, .int 0, .int 0, .int 0, .int 0, .int 0, .int 0, .int 0, .int 0, .ref q1, .ref q4, .ref q9, .ref q14, .ref q17, .ref q20, .ref q23])) := (hfr h n_h_q1).trans hc_h
  have hc_q14 : M70 q14 = some (.inl (kA 0, 14, .inl (fun _ => 0))) := (hfr q14 n_q14_q1).trans hc_q14
  have hc_q17 : M70 q17 = some (.inl (kA 0, 14, .inl (fun _ => 0))) := (hfr q17 n_q17_q1).trans hc_q17
  have hc_q20 : M70 q20 = some (.inl (kA 0, 14, .inl (fun _ => 0))) := (hfr q20 n_q20_q1).trans hc_q20
  have hc_q23 : M70 q23 = some (.inl (kA 0, 14, .inl (fun _ => 0))) := (hfr q23 n_q23_q1).trans hc_q23
  have hF : ∀ a, a ≠ h → a < sz → M70 a = M a := fun a h0 h1 => (hfr a (Nat.ne_of_lt (Nat.lt_of_lt_of_le h1 g_q1))).trans (hF a h0 h1)
  refine lv_iinc (v := 5) (lv' := [(1, .int 5), (0, .ref h)]) hx hb dX1_init_88 hl (k := 0) rfl (by decide) (by decide) rfl (fun ls hl => ?_)
  refine lv_goto (tgt := 69) hx hb dX1_init_91 (by decide) ?_
  refine lv_iload_n hx hb dX1_init_69 rfl (lv_at hl 0 rfl) ?_
  refine lv_bipush (v := 12) hx hb dX1_init_70 (by decide) ?_
  refine jic_ge (tgt := 94) hx hb dX1_init_72 (by decide) (fun c71 => absurd c71 (by decide)) (fun c71 => ?_)
  refine lv_aload_n hx hb dX1_init_75 rfl (lv_at hl 1 rfl) ?_
  refine xg hC hK hH flX1_11 hc_h rfl dX1_init_76 ?_
  refine lv_iload_n hx hb dX1_init_79 rfl (lv_at hl 0 rfl) ?_
  refine ynew hC hK hH nlX1_9 (Nat.le_of_ble_eq_true rfl) (Nat.le_of_ble_eq_true rfl) dX1_init_80 (fun q72 H M73 e_q72 hz nM_q72 nT_q72 hc_q72 hfr hN => ?_)
  have g_q72 : sz ≤ q72 := by rw [← hsz, e_q72]; exact hH.2.1.1
  have n_h_q72 : h ≠ q72 := neN hc_h nM_q72
  have n_q72_h : q72 ≠ h := Ne.symm n_h_q72
  have n_q1_q72 : q1 ≠ q72 := neN hc_q1 nM_q72
  have n_q72_q1 : q72 ≠ q1 := Ne.symm n_q1_q72
  have n_q14_q72 : q14 ≠ q72 := neN hc_q14 nM_q72
  have n_q72_q14 : q72 ≠ q14 := Ne.symm n_q14_q72
  have n_q17_q72 : q17 ≠ q72 := neN hc_q17 nM_q72
  have n_q72_q17 : q72 ≠ q17 := Ne.symm n_q17_q72
  have n_q20_q72 : q20 ≠ q72 := neN hc_q20 nM_q72
  have n_q72_q20 : q72 ≠ q20 := Ne.symm n_q20_q72
  have n_q23_q72 : q23 ≠ q72 := neN hc_q23 nM_q72
  have n_q72_q23 : q72 ≠ q23 := Ne.symm n_q23_q72
  have hH := hN
  have hc_q72 : M73 q72 = some (.inr (5, [.int 0, .int 0, .int 0, .int 0, .int 0, .int 0, .int 0, .int 0, .int 0, .int 0, .int 0])) := hc_q72
  have hc_h : M73 h = some (.inr (0, [.int 0, .int 0, .int 0, .int 0, .int 0, .int 0, .int 0, .int 0, .int 0, .int 0, .int 0, .int 0, .ref q1, .ref q4, .ref q9, .ref q14, .ref q17, .ref q20, .ref q23])) := (hfr h n_h_q72).trans hc_h
  have hc_q1 : M73 q1 = some (.inl (kA 3, 12, .inr (.inr (.inr (.inr (va_up (va_up (va_up (va_up (va_up (fun _ => none) (Int32.toNatClampNeg 0) (some q27)) (Int32.toNatClampNeg 1) (some q36)) (Int32.toNatClampNeg 2) (some q45)) (Int32.toNatClampNeg 3) (some q54)) (Int32.toNatClampNeg 4) (some q63))))))) := (hfr q1 n_q1_q72).trans hc_q1
  have hc_q14 : M73 q14 = some (.inl (kA 0, 14, .inl (fun _ => 0))) := (hfr q14 n_q14_q72).trans hc_q14
  have hc_q17 : M73 q17 = some (.inl (kA 0, 14, .inl (fun _ => 0))) := (hfr q17 n_q17_q72).trans hc_q17
  have hc_q20 : M73 q20 = some (.inl (kA 0, 14, .inl (fun _ => 0))) := (hfr q20 n_q20_q72).trans hc_q20
  have hc_q23 : M73 q23 = some (.inl (kA 0, 14, .inl (fun _ => 0))) := (hfr q23 n_q23_q72).trans hc_q23
  have hF : ∀ a, a ≠ h → a < sz → M73 a = M a := fun a h0 h1 => (hfr a (Nat.ne_of_lt (Nat.lt_of_lt_of_le h1 g_q72))).trans (hF a h0 h1)
  refine lv_dup hx hb dX1_init_83 rfl ?_
  refine goV hK hH (runIN (As := []) (rest := [.ref q72, .int 5, .ref q1]) hC hK hH (c_X6_init hc_q72) mlX1_40 ⟨⟨Nat.le_of_ble_eq_true rfl, Nat.le_of_ble_eq_true rfl⟩, Nat.le_of_ble_eq_true rfl, Nat.le_of_ble_eq_true rfl⟩ rfl hl.1 rfl (Nat.le_of_ble_eq_true rfl) dX1_init_84) (fun M74 T75 H locs hP hz hH => ?_)
  try dsimp only at hP
  obtain ⟨(-), eT, eM⟩ := hP
  have eT := eT.symm; subst eT
  have eM := eM.symm; subst eM
  obtain ⟨M77, T78, nM_q72, hfr, t_q72, hfT, hsub, hH⟩ := hH.re2 (τ := 0) hc_q72 (conf_o rfl ⟨okI (by decide) (by decide), okI (by decide) (by decide), okI (by decide) (by decide), okI (by decide) (by decide), okI (by decide) (by decide), okI (by decide) (by decide), okI (by decide) (by decide), okI (by decide) (by decide), okI (by decide) (by decide), okI (by decide) (by decide), okI (by decide) (by decide), trivial⟩)
  have hc_h : M77 h = some (.inr (0, [.int 0, .int 0, .int 0, .int 0, .int 0, .int 0, .int 0, .int 0, .int 0, .int 0, .int 0, .int 0, .ref q1, .ref q4, .ref q9, .ref q14, .ref q17, .ref q20, .ref q23])) := (hfr h n_h_q72).trans hc_h
  have hc_q1 : M77 q1 = some (.inl (kA 3, 12, .inr (.inr (.inr (.inr (va_up (va_up (va_up (va_up (va_up (fun _ => none) (Int32.toNatClampNeg 0) (some q27)) (Int32.toNatClampNeg 1) (some q36)) (Int32.toNatClampNeg 2) (some q45)) (Int32.toNatClampNeg 3) (some q54)) (Int32.toNatClampNeg 4) (some q63))))))) := (hfr q1 n_q1_q72).trans hc_q1
  have hc_q14 : M77 q14 = some (.inl (kA 0, 14, .inl (fun _ => 0))) := (hfr q14 n_q14_q72).trans hc_q14
  have hc_q17 : M77 q17 = some (.inl (kA 0, 14, .inl (fun _ => 0))) := (hfr q17 n_q17_q72).trans hc_q17
  have hc_q20 : M77 q20 = some (.inl (kA 0, 14, .inl (fun _ => 0))) := (hfr q20 n_q20_q72).trans hc_q20
  have hc_q23 : M77 q23 = some (.inl (kA 0, 14, .inl (fun _ => 0))) := (hfr q23 n_q23_q72).trans hc_q23
  have t_q4 : T78 q4 = some 1 := hsub _ _ t_q4
  have t_q9 : T78 q9 = some 1 := hsub _ _ t_q9
  have t_q27 : T78 q27 = some 0 := hsub _ _ t_q27
  have t_q36 : T78 q36 = some 0 := hsub _ _ t_q36
  have t_q45 : T78 q45 = some 0 := hsub _ _ t_q45
  have t_q54 : T78 q54 = some 0 := hsub _ _ t_q54
  have t_q63 : T78 q63 = some 0 := hsub _ _ t_q63
  have hTT : ∀ a t, T a = some t → T78 a = some t := fun a t h => hsub _ _ (hTT a t h)
  have hF : ∀ a, a ≠ h → a < sz → M77 a = M a := fun a h0 h1 => (hfr a (Nat.ne_of_lt (Nat.lt_of_lt_of_le h1 g_q72))).trans (hF a h0 h1)
  refine yqst (ck := 3) (cv := 5) (v := q72) hC hK hH rfl rfl hc_q1 (let ⟨fs, h1, _⟩ := tcell hH t_q72 rfl; ⟨fs, h1⟩) (iIn (by decide) (by decide)) dX1_init_87 (fun H locs M79 hc_q1 hfr hH => ?_)
  have hc_q1 : M79 q1 = some (.inl (kA 3, 12, .inr (.inr (.inr (.inr (va_up (va_up (va_up (va_up (va_up (va_up (fun _ => none) (Int32.toNatClampNeg 0) (some q27)) (Int32.toNatClampNeg 1) (some q36)) (Int32.toNatClampNeg 2) (some q45)) (Int32.toNatClampNeg 3) (some q54)) (Int32.toNatClampNeg 4) (some q63)) (Int32.toNatClampNeg 5) (some q72))))))) := hc_q1
  have hc_h : M79 h = some (.inr (0, [.int 0, .int 0, .int 0, .int 0, .int 0, .int 0, .int 0, .int 0, .int 0, .int 0, .int 0, .int 0, .ref q1, .ref q4, .ref q9, .ref q14, .ref q17, .ref q20, .ref q23])) := (hfr h n_h_q1).trans hc_h
  have hc_q14 : M79 q14 = some (.inl (kA 0, 14, .inl (fun _ => 0))) := (hfr q14 n_q14_q1).trans hc_q14
  have hc_q17 : M79 q17 = some (.inl (kA 0, 14, .inl (fun _ => 0))) := (hfr q17 n_q17_q1).trans hc_q17
  have hc_q20 : M79 q20 = some (.inl (kA 0, 14, .inl (fun _ => 0))) := (hfr q20 n_q20_q1).trans hc_q20
  have hc_q23 : M79 q23 = some (.inl (kA 0, 14, .inl (fun _ => 0))) := (hfr q23 n_q23_q1).trans hc_q23
  have hF : ∀ a, a ≠ h → a < sz → M79 a = M a := fun a h0 h1 => (hfr a (Nat.ne_of_lt (Nat.lt_of_lt_of_le h1 g_q1))).trans (hF a h0 h1)
  refine lv_iinc (v := 6) (lv' := [(1, .int 6), (0, .ref h)]) hx hb dX1_init_88 hl (k := 0) rfl (by decide) (by decide) rfl (fun ls hl => ?_)
  refine lv_goto (tgt := 69) hx hb dX1_init_91 (by decide) ?_
  refine lv_iload_n hx hb dX1_init_69 rfl (lv_at hl 0 rfl) ?_
  refine lv_bipush (v := 12) hx hb dX1_init_70 (by decide) ?_
  refine jic_ge (tgt := 94) hx hb dX1_init_72 (by decide) (fun c80 => absurd c80 (by decide)) (fun c80 => ?_)
  refine lv_aload_n hx hb dX1_init_75 rfl (lv_at hl 1 rfl) ?_
  refine xg hC hK hH flX1_11 hc_h rfl dX1_init_76 ?_
  refine lv_iload_n hx hb dX1_init_79 rfl (lv_at hl 0 rfl) ?_
  refine ynew hC hK hH nlX1_9 (Nat.le_of_ble_eq_true rfl) (Nat.le_of_ble_eq_true rfl) dX1_init_80 (fun q81 H M82 e_q81 hz nM_q81 nT_q81 hc_q81 hfr hN => ?_)
  have g_q81 : sz ≤ q81 := by rw [← hsz, e_q81]; exact hH.2.1.1
  have n_h_q81 : h ≠ q81 := neN hc_h nM_q81
  have n_q81_h : q81 ≠ h := Ne.symm n_h_q81
  have n_q1_q81 : q1 ≠ q81 := neN hc_q1 nM_q81
  have n_q81_q1 : q81 ≠ q1 := Ne.symm n_q1_q81
  have n_q14_q81 : q14 ≠ q81 := neN hc_q14 nM_q81
  have n_q81_q14 : q81 ≠ q14 := Ne.symm n_q14_q81
  have n_q17_q81 : q17 ≠ q81 := neN hc_q17 nM_q81
  have n_q81_q17 : q81 ≠ q17 := Ne.symm n_q17_q81
  have n_q20_q81 : q20 ≠ q81 := neN hc_q20 nM_q81
  have n_q81_q20 : q81 ≠ q20 := Ne.symm n_q20_q81
  have n_q23_q81 : q23 ≠ q81 := neN hc_q23 nM_q81
  have n_q81_q23 : q81 ≠ q23 := Ne.symm n_q23_q81
  have hH := hN
  have hc_q81 : M82 q81 = some (.inr (5, [.int 0, .int 0, .int 0, .int 0, .int 0, .int 0, .int 0, .int 0, .int 0, .int 0, .int 0])) := hc_q81
  have hc_h : M82 h = some (.inr (0, [.int 0, .int 0, .int 0, .int 0, .int 0, .int 0, .int 0, .int 0, .int 0, .int 0, .int 0, .int 0, .ref q1, .ref q4, .ref q9, .ref q14, .ref q17, .ref q20, .ref q23])) := (hfr h n_h_q81).trans hc_h
  have hc_q1 : M82 q1 = some (.inl (kA 3, 12, .inr (.inr (.inr (.inr (va_up (va_up (va_up (va_up (va_up (va_up (fun _ => none) (Int32.toNatClampNeg 0) (some q27)) (Int32.toNatClampNeg 1) (some q36)) (Int32.toNatClampNeg 2) (some q45)) (Int32.toNatClampNeg 3) (some q54)) (Int32.toNatClampNeg 4) (some q63)) (Int32.toNatClampNeg 5) (some q72))))))) := (hfr q1 n_q1_q81).trans hc_q1
  have hc_q14 : M82 q14 = some (.inl (kA 0, 14, .inl (fun _ => 0))) := (hfr q14 n_q14_q81).trans hc_q14
  have hc_q17 : M82 q17 = some (.inl (kA 0, 14, .inl (fun _ => 0))) := (hfr q17 n_q17_q81).trans hc_q17
  have hc_q20 : M82 q20 = some (.inl (kA 0, 14, .inl (fun _ => 0))) := (hfr q20 n_q20_q81).trans hc_q20
  have hc_q23 : M82 q23 = some (.inl (kA 0, 14, .inl (fun _ => 0))) := (hfr q23 n_q23_q81).trans hc_q23
  have hF : ∀ a, a ≠ h → a < sz → M82 a = M a := fun a h0 h1 => (hfr a (Nat.ne_of_lt (Nat.lt_of_lt_of_le h1 g_q81))).trans (hF a h0 h1)
  refine lv_dup hx hb dX1_init_83 rfl ?_
  refine goV hK hH (runIN (As := []) (rest := [.ref q81, .int 6, .ref q1]) hC hK hH (c_X6_init hc_q81) mlX1_40 ⟨⟨Nat.le_of_ble_eq_true rfl, Nat.le_of_ble_eq_true rfl⟩, Nat.le_of_ble_eq_true rfl, Nat.le_of_ble_eq_true rfl⟩ rfl hl.1 rfl (Nat.le_of_ble_eq_true rfl) dX1_init_84) (fun M83 T84 H locs hP hz hH => ?_)
  try dsimp only at hP
  obtain ⟨(-), eT, eM⟩ := hP
  have eT := eT.symm; subst eT
  have eM := eM.symm; subst eM
  obtain ⟨M86, T87, nM_q81, hfr, t_q81, hfT, hsub, hH⟩ := hH.re2 (τ := 0) hc_q81 (conf_o rfl ⟨okI (by decide) (by decide), okI (by decide) (by decide), okI (by decide) (by decide), okI (by decide) (by decide), okI (by decide) (by decide), okI (by decide) (by decide), okI (by decide) (by decide), okI (by decide) (by decide), okI (by decide) (by decide), okI (by decide) (by decide), okI (by decide) (by decide), trivial⟩)
  have hc_h : M86 h = some (.inr (0, [.int 0, .int 0, .int 0, .int 0, .int 0, .int 0, .int 0, .int 0, .int 0, .int 0, .int 0, .int 0, .ref q1, .ref q4, .ref q9, .ref q14, .ref q17, .ref q20, .ref q23])) := (hfr h n_h_q81).trans hc_h
  have hc_q1 : M86 q1 = some (.inl (kA 3, 12, .inr (.inr (.inr (.inr (va_up (va_up (va_up (va_up (va_up (va_up (fun _ => none) (Int32.toNatClampNeg 0) (some q27)) (Int32.toNatClampNeg 1) (some q36)) (Int32.toNatClampNeg 2) (some q45)) (Int32.toNatClampNeg 3) (some q54)) (Int32.toNatClampNeg 4) (some q63)) (Int32.toNatClampNeg 5) (some q72))))))) := (hfr q1 n_q1_q81).trans hc_q1
  have hc_q14 : M86 q14 = some (.inl (kA 0, 14, .inl (fun _ => 0))) := (hfr q14 n_q14_q81).trans hc_q14
  have hc_q17 : M86 q17 = some (.inl (kA 0, 14, .inl (fun _ => 0))) := (hfr q17 n_q17_q81).trans hc_q17
  have hc_q20 : M86 q20 = some (.inl (kA 0, 14, .inl (fun _ => 0))) := (hfr q20 n_q20_q81).trans hc_q20
  have hc_q23 : M86 q23 = some (.inl (kA 0, 14, .inl (fun _ => 0))) := (hfr q23 n_q23_q81).trans hc_q23
  have t_q4 : T87 q4 = some 1 := hsub _ _ t_q4
  have t_q9 : T87 q9 = some 1 := hsub _ _ t_q9
  have t_q27 : T87 q27 = some 0 := hsub _ _ t_q27
  have t_q36 : T87 q36 = some 0 := hsub _ _ t_q36
  have t_q45 : T87 q45 = some 0 := hsub _ _ t_q45
  have t_q54 : T87 q54 = some 0 := hsub _ _ t_q54
  have t_q63 : T87 q63 = some 0 := hsub _ _ t_q63
  have t_q72 : T87 q72 = some 0 := hsub _ _ t_q72
  have hTT : ∀ a t, T a = some t → T87 a = some t := fun a t h => hsub _ _ (hTT a t h)
  have hF : ∀ a, a ≠ h → a < sz → M86 a = M a := fun a h0 h1 => (hfr a (Nat.ne_of_lt (Nat.lt_of_lt_of_le h1 g_q81))).trans (hF a h0 h1)
  refine yqst (ck := 3) (cv := 5) (v := q81) hC hK hH rfl rfl hc_q1 (let ⟨fs, h1, _⟩ := tcell hH t_q81 rfl; ⟨fs, h1⟩) (iIn (by decide) (by decide)) dX1_init_87 (fun H locs M88 hc_q1 hfr hH => ?_)
  have hc_q1 : M88 q1 = some (.inl (kA 3, 12, .inr (.inr (.inr (.inr (va_up (va_up (va_up (va_up (va_up (va_up (va_up (fun _ => none) (Int32.toNatClampNeg 0) (some q27)) (Int32.toNatClampNeg 1) (some q36)) (Int32.toNatClampNeg 2) (some q45)) (Int32.toNatClampNeg 3) (some q54)) (Int32.toNatClampNeg 4) (some q63)) (Int32.toNatClampNeg 5) (some q72)) (Int32.toNatClampNeg 6) (some q81))))))) := hc_q1
  have hc_h : M88 h = some (.inr (0, [.int 0, .int 0, .int 0, .int 0, .int 0, .int 0, .int 0, .int 0, .int 0, .int 0, .int 0, .int 0, .ref q1, .ref q4, .ref q9, .ref q14, .ref q17, .ref q20, .ref q23])) := (hfr h n_h_q1).trans hc_h
  have hc_q14 : M88 q14 = some (.inl (kA 0, 14, .inl (fun _ => 0))) := (hfr q14 n_q14_q1).trans hc_q14
  have hc_q17 : M88 q17 = some (.inl (kA 0, 14, .inl (fun _ => 0))) := (hfr q17 n_q17_q1).trans hc_q17
  have hc_q20 : M88 q20 = some (.inl (kA 0, 14, .inl (fun _ => 0))) := (hfr q20 n_q20_q1).trans hc_q20
  have hc_q23 : M88 q23 = some (.inl (kA 0, 14, .inl (fun _ => 0))) := (hfr q23 n_q23_q1).trans hc_q23
  have hF : ∀ a, a ≠ h → a < sz → M88 a = M a := fun a h0 h1 => (hfr a (Nat.ne_of_lt (Nat.lt_of_lt_of_le h1 g_q1))).trans (hF a h0 h1)
  refine lv_iinc (v := 7) (lv' := [(1, .int 7), (0, .ref h)]) hx hb dX1_init_88 hl (k := 0) rfl (by decide) (by decide) rfl (fun ls hl => ?_)
  refine lv_goto (tgt := 69) hx hb dX1_init_91 (by decide) ?_
  refine lv_iload_n hx hb dX1_init_69 rfl (lv_at hl 0 rfl) ?_
  refine lv_bipush (v := 12) hx hb dX1_init_70 (by decide) ?_
  refine jic_ge (tgt := 94) hx hb dX1_init_72 (by decide) (fun c89 => absurd c89 (by decide)) (fun c89 => ?_)
  refine lv_aload_n hx hb dX1_init_75 rfl (lv_at hl 1 rfl) ?_
  refine xg hC hK hH flX1_11 hc_h rfl dX1_init_76 ?_
  refine lv_iload_n hx hb dX1_init_79 rfl (lv_at hl 0 rfl) ?_
  refine ynew hC hK hH nlX1_9 (Nat.le_of_ble_eq_true rfl) (Nat.le_of_ble_eq_true rfl) dX1_init_80 (fun q90 H M91 e_q90 hz nM_q90 nT_q90 hc_q90 hfr hN => ?_)
  have g_q90 : sz ≤ q90 := by rw [← hsz, e_q90]; exact hH.2.1.1
  have n_h_q90 : h ≠ q90 := neN hc_h nM_q90
  have n_q90_h : q90 ≠ h := Ne.symm n_h_q90
  have n_q1_q90 : q1 ≠ q90 := neN hc_q1 nM_q90
  have n_q90_q1 : q90 ≠ q1 := Ne.symm n_q1_q90
  have n_q14_q90 : q14 ≠ q90 := neN hc_q14 nM_q90
  have n_q90_q14 : q90 ≠ q14 := Ne.symm n_q14_q90
  have n_q17_q90 : q17 ≠ q90 := neN hc_q17 nM_q90
  have n_q90_q17 : q90 ≠ q17 := Ne.symm n_q17_q90
  have n_q20_q90 : q20 ≠ q90 := neN hc_q20 nM_q90
  have n_q90_q20 : q90 ≠ q20 := Ne.symm n_q20_q90
  have n_q23_q90 : q23 ≠ q90 := neN hc_q23 nM_q90
  have n_q90_q23 : q90 ≠ q23 := Ne.symm n_q23_q90
  have hH := hN
  have hc_q90 : M91 q90 = some (.inr (5, [.int 0, .int 0, .int 0, .int 0, .int 0, .int 0, .int 0, .int 0, .int 0, .int 0, .int 0])) := hc_q90
  have hc_h : M91 h = some (.inr (0, [.int 0, .int 0, .int 0, .int 0, .int 0, .int 0, .int 0, .int 0, .int 0, .int 0, .int 0, .int 0, .ref q1, .ref q4, .ref q9, .ref q14, .ref q17, .ref q20, .ref q23])) := (hfr h n_h_q90).trans hc_h
  have hc_q1 : M91 q1 = some (.inl (kA 3, 12, .inr (.inr (.inr (.inr (va_up (va_up (va_up (va_up (va_up (va_up (va_up (fun _ => none) (Int32.toNatClampNeg 0) (some q27)) (Int32.toNatClampNeg 1) (some q36)) (Int32.toNatClampNeg 2) (some q45)) (Int32.toNatClampNeg 3) (some q54)) (Int32.toNatClampNeg 4) (some q63)) (Int32.toNatClampNeg 5) (some q72)) (Int32.toNatClampNeg 6) (some q81))))))) := (hfr q1 n_q1_q90).trans hc_q1
  have hc_q14 : M91 q14 = some (.inl (kA 0, 14, .inl (fun _ => 0))) := (hfr q14 n_q14_q90).trans hc_q14
  have hc_q17 : M91 q17 = some (.inl (kA 0, 14, .inl (fun _ => 0))) := (hfr q17 n_q17_q90).trans hc_q17
  have hc_q20 : M91 q20 = some (.inl (kA 0, 14, .inl (fun _ => 0))) := (hfr q20 n_q20_q90).trans hc_q20
  have hc_q23 : M91 q23 = some (.inl (kA 0, 14, .inl (fun _ => 0))) := (hfr q23 n_q23_q90).trans hc_q23
  have hF : ∀ a, a ≠ h → a < sz → M91 a = M a := fun a h0 h1 => (hfr a (Nat.ne_of_lt (Nat.lt_of_lt_of_le h1 g_q90))).trans (hF a h0 h1)
  refine lv_dup hx hb dX1_init_83 rfl ?_
  refine goV hK hH (runIN (As := []) (rest := [.ref q90, .int 7, .ref q1]) hC hK hH (c_X6_init hc_q90) mlX1_40 ⟨⟨Nat.le_of_ble_eq_true rfl, Nat.le_of_ble_eq_true rfl⟩, Nat.le_of_ble_eq_true rfl, Nat.le_of_ble_eq_true rfl⟩ rfl hl.1 rfl (Nat.le_of_ble_eq_true rfl) dX1_init_84) (fun M92 T93 H locs hP hz hH => ?_)
  try dsimp only at hP
  obtain ⟨(-), eT, eM⟩ := hP
  have eT := eT.symm; subst eT
  have eM := eM.symm; subst eM
  obtain ⟨M95, T96, nM_q90, hfr, t_q90, hfT, hsub, hH⟩ := hH.re2 (τ := 0) hc_q90 (conf_o rfl ⟨okI (by decide) (by decide), okI (by decide) (by decide), okI (by decide) (by decide), okI (by decide) (by decide), okI (by decide) (by decide), okI (by decide) (by decide), okI (by decide) (by decide), okI (by decide) (by decide), okI (by decide) (by decide), okI (by decide) (by decide), okI (by decide) (by decide), trivial⟩)
  have hc_h : M95 h = some (.inr (0, [.int 0, .int 0, .int 0, .int 0, .int 0, .int 0, .int 0, .int 0, .int 0, .int 0, .int 0, .int 0, .ref q1, .ref q4, .ref q9, .ref q14, .ref q17, .ref q20, .ref q23])) := (hfr h n_h_q90).trans hc_h
  have hc_q1 : M95 q1 = some (.inl (kA 3, 12, .inr (.inr (.inr (.inr (va_up (va_up (va_up (va_up (va_up (va_up (va_up (fun _ => none) (Int32.toNatClampNeg 0) (some q27)) (Int32.toNatClampNeg 1) (some q36)) (Int32.toNatClampNeg 2) (some q45)) (Int32.toNatClampNeg 3) (some q54)) (Int32.toNatClampNeg 4) (some q63)) (Int32.toNatClampNeg 5) (some q72)) (Int32.toNatClampNeg 6) (some q81))))))) := (hfr q1 n_q1_q90).trans hc_q1
  have hc_q14 : M95 q14 = some (.inl (kA 0, 14, .inl (fun _ => 0))) := (hfr q14 n_q14_q90).trans hc_q14
  have hc_q17 : M95 q17 = some (.inl (kA 0, 14, .inl (fun _ => 0))) := (hfr q17 n_q17_q90).trans hc_q17
  have hc_q20 : M95 q20 = some (.inl (kA 0, 14, .inl (fun _ => 0))) := (hfr q20 n_q20_q90).trans hc_q20
  have hc_q23 : M95 q23 = some (.inl (kA 0, 14, .inl (fun _ => 0))) := (hfr q23 n_q23_q90).trans hc_q23
  have t_q4 : T96 q4 = some 1 := hsub _ _ t_q4
  have t_q9 : T96 q9 = some 1 := hsub _ _ t_q9
  have t_q27 : T96 q27 = some 0 := hsub _ _ t_q27
  have t_q36 : T96 q36 = some 0 := hsub _ _ t_q36
  have t_q45 : T96 q45 = some 0 := hsub _ _ t_q45
  have t_q54 : T96 q54 = some 0 := hsub _ _ t_q54
  have t_q63 : T96 q63 = some 0 := hsub _ _ t_q63
  have t_q72 : T96 q72 = some 0 := hsub _ _ t_q72
  have t_q81 : T96 q81 = some 0 := hsub _ _ t_q81
  have hTT : ∀ a t, T a = some t → T96 a = some t := fun a t h => hsub _ _ (hTT a t h)
  have hF : ∀ a, a ≠ h → a < sz → M95 a = M a := fun a h0 h1 => (hfr a (Nat.ne_of_lt (Nat.lt_of_lt_of_le h1 g_q90))).trans (hF a h0 h1)
  refine yqst (ck := 3) (cv := 5) (v := q90) hC hK hH rfl rfl hc_q1 (let ⟨fs, h1, _⟩ := tcell hH t_q90 rfl; ⟨fs, h1⟩) (iIn (by decide) (by decide)) dX1_init_87 (fun H locs M97 hc_q1 hfr hH => ?_)
  have hc_q1 : M97 q1 = some (.inl (kA 3, 12, .inr (.inr (.inr (.inr (va_up (va_up (va_up (va_up (va_up (va_up (va_up (va_up (fun _ => none) (Int32.toNatClampNeg 0) (some q27)) (Int32.toNatClampNeg 1) (some q36)) (Int32.toNatClampNeg 2) (some q45)) (Int32.toNatClampNeg 3) (some q54)) (Int32.toNatClampNeg 4) (some q63)) (Int32.toNatClampNeg 5) (some q72)) (Int32.toNatClampNeg 6) (some q81)) (Int32.toNatClampNeg 7) (some q90))))))) := hc_q1
  have hc_h : M97 h = some (.inr (0, [.int 0, .int 0, .int 0, .int 0, .int 0, .int 0, .int 0, .int 0, .int 0, .int 0, .int 0, .int 0, .ref q1, .ref q4, .ref q9, .ref q14, .ref q17, .ref q20, .ref q23])) := (hfr h n_h_q1).trans hc_h
  have hc_q14 : M97 q14 = some (.inl (kA 0, 14, .inl (fun _ => 0))) := (hfr q14 n_q14_q1).trans hc_q14
  have hc_q17 : M97 q17 = some (.inl (kA 0, 14, .inl (fun _ => 0))) := (hfr q17 n_q17_q1).trans hc_q17
  have hc_q20 : M97 q20 = some (.inl (kA 0, 14, .inl (fun _ => 0))) := (hfr q20 n_q20_q1).trans hc_q20
  have hc_q23 : M97 q23 = some (.inl (kA 0, 14, .inl (fun _ => 0))) := (hfr q23 n_q23_q1).trans hc_q23
  have hF : ∀ a, a ≠ h → a < sz → M97 a = M a := fun a h0 h1 => (hfr a (Nat.ne_of_lt (Nat.lt_of_lt_of_le h1 g_q1))).trans (hF a h0 h1)
  refine lv_iinc (v := 8) (lv' := [(1, .int 8), (0, .ref h)]) hx hb dX1_init_88 hl (k := 0) rfl (by decide) (by decide) rfl (fun ls hl => ?_)
  refine lv_goto (tgt := 69) hx hb dX1_init_91 (by decide) ?_
  refine lv_iload_n hx hb dX1_init_69 rfl (lv_at hl 0 rfl) ?_
  refine lv_bipush (v := 12) hx hb dX1_init_70 (by decide) ?_
  refine jic_ge (tgt := 94) hx hb dX1_init_72 (by decide) (fun c98 => absurd c98 (by decide)) (fun c98 => ?_)
  refine lv_aload_n hx hb dX1_init_75 rfl (lv_at hl 1 rfl) ?_
  refine xg hC hK hH flX1_11 hc_h rfl dX1_init_76 ?_
  refine lv_iload_n hx hb dX1_init_79 rfl (lv_at hl 0 rfl) ?_
  refine ynew hC hK hH nlX1_9 (Nat.le_of_ble_eq_true rfl) (Nat.le_of_ble_eq_true rfl) dX1_init_80 (fun q99 H M100 e_q99 hz nM_q99 nT_q99 hc_q99 hfr hN => ?_)
  have g_q99 : sz ≤ q99 := by rw [← hsz, e_q99]; exact hH.2.1.1
  have n_h_q99 : h ≠ q99 := neN hc_h nM_q99
  have n_q99_h : q99 ≠ h := Ne.symm n_h_q99
  have n_q1_q99 : q1 ≠ q99 := neN hc_q1 nM_q99
  have n_q99_q1 : q99 ≠ q1 := Ne.symm n_q1_q99
  have n_q14_q99 : q14 ≠ q99 := neN hc_q14 nM_q99
  have n_q99_q14 : q99 ≠ q14 := Ne.symm n_q14_q99
  have n_q17_q99 : q17 ≠ q99 := neN hc_q17 nM_q99
  have n_q99_q17 : q99 ≠ q17 := Ne.symm n_q17_q99
  have n_q20_q99 : q20 ≠ q99 := neN hc_q20 nM_q99
  have n_q99_q20 : q99 ≠ q20 := Ne.symm n_q20_q99
  have n_q23_q99 : q23 ≠ q99 := neN hc_q23 nM_q99
  have n_q99_q23 : q99 ≠ q23 := Ne.symm n_q23_q99
  have hH := hN
  have hc_q99 : M100 q99 = some (.inr (5, [.int 0, .int 0, .int 0, .int 0, .int 0, .int 0, .int 0, .int 0, .int 0, .int 0, .int 0])) := hc_q99
  have hc_h : M100 h = some (.inr (0, [.int 0, .int 0, .int 0, .int 0, .int 0, .int 0, .int 0, .int 0, .int 0, .int 0, .int 0, .int 0, .ref q1, .ref q4, .ref q9, .ref q14, .ref q17, .ref q20, .ref q23])) := (hfr h n_h_q99).trans hc_h
  have hc_q1 : M100 q1 = some (.inl (kA 3, 12, .inr (.inr (.inr (.inr (va_up (va_up (va_up (va_up (va_up (va_up (va_up (va_up (fun _ => none) (Int32.toNatClampNeg 0) (some q27)) (Int32.toNatClampNeg 1) (some q36)) (Int32.toNatClampNeg 2) (some q45)) (Int32.toNatClampNeg 3) (some q54)) (Int32.toNatClampNeg 4) (some q63)) (Int32.toNatClampNeg 5) (some q72)) (Int32.toNatClampNeg 6) (some q81)) (Int32.toNatClampNeg 7) (some q90))))))) := (hfr q1 n_q1_q99).trans hc_q1
  have hc_q14 : M100 q14 = some (.inl (kA 0, 14, .inl (fun _ => 0))) := (hfr q14 n_q14_q99).trans hc_q14
  have hc_q17 : M100 q17 = some (.inl (kA 0, 14, .inl (fun _ => 0))) := (hfr q17 n_q17_q99).trans hc_q17
  have hc_q20 : M100 q20 = some (.inl (kA 0, 14, .inl (fun _ => 0))) := (hfr q20 n_q20_q99).trans hc_q20
  have hc_q23 : M100 q23 = some (.inl (kA 0, 14, .inl (fun _ => 0))) := (hfr q23 n_q23_q99).trans hc_q23
  have hF : ∀ a, a ≠ h → a < sz → M100 a = M a := fun a h0 h1 => (hfr a (Nat.ne_of_lt (Nat.lt_of_lt_of_le h1 g_q99))).trans (hF a h0 h1)
  refine lv_dup hx hb dX1_init_83 rfl ?_
  refine goV hK hH (runIN (As := []) (rest := [.ref q99, .int 8, .ref q1]) hC hK hH (c_X6_init hc_q99) mlX1_40 ⟨⟨Nat.le_of_ble_eq_true rfl, Nat.le_of_ble_eq_true rfl⟩, Nat.le_of_ble_eq_true rfl, Nat.le_of_ble_eq_true rfl⟩ rfl hl.1 rfl (Nat.le_of_ble_eq_true rfl) dX1_init_84) (fun M101 T102 H locs hP hz hH => ?_)
  try dsimp only at hP
  obtain ⟨(-), eT, eM⟩ := hP
  have eT := eT.symm; subst eT
  have eM := eM.symm; subst eM
  obtain ⟨M104, T105, nM_q99, hfr, t_q99, hfT, hsub, hH⟩ := hH.re2 (τ := 0) hc_q99 (conf_o rfl ⟨okI (by decide) (by decide), okI (by decide) (by decide), okI (by decide) (by decide), okI (by decide) (by decide), okI (by decide) (by decide), okI (by decide) (by decide), okI (by decide) (by decide), okI (by decide) (by decide), okI (by decide) (by decide), okI (by decide) (by decide), okI (by decide) (by decide), trivial⟩)
  have hc_h : M104 h = some (.inr (0, [.int 0, .int 0, .int 0, .int 0, .int 0, .int 0, .int 0, .int 0, .int 0, .int 0, .int 0, .int 0, .ref q1, .ref q4, .ref q9, .ref q14, .ref q17, .ref q20, .ref q23])) := (hfr h n_h_q99).trans hc_h
  have hc_q1 : M104 q1 = some (.inl (kA 3, 12, .inr (.inr (.inr (.inr (va_up (va_up (va_up (va_up (va_up (va_up (va_up (va_up (fun _ => none) (Int32.toNatClampNeg 0) (some q27)) (Int32.toNatClampNeg 1) (some q36)) (Int32.toNatClampNeg 2) (some q45)) (Int32.toNatClampNeg 3) (some q54)) (Int32.toNatClampNeg 4) (some q63)) (Int32.toNatClampNeg 5) (some q72)) (Int32.toNatClampNeg 6) (some q81)) (Int32.toNatClampNeg 7) (some q90))))))) := (hfr q1 n_q1_q99).trans hc_q1
  have hc_q14 : M104 q14 = some (.inl (kA 0, 14, .inl (fun _ => 0))) := (hfr q14 n_q14_q99).trans hc_q14
  have hc_q17 : M104 q17 = some (.inl (kA 0, 14, .inl (fun _ => 0))) := (hfr q17 n_q17_q99).trans hc_q17
  have hc_q20 : M104 q20 = some (.inl (kA 0, 14, .inl (fun _ => 0))) := (hfr q20 n_q20_q99).trans hc_q20
  have hc_q23 : M104 q23 = some (.inl (kA 0, 14, .inl (fun _ => 0))) := (hfr q23 n_q23_q99).trans hc_q23
  have t_q4 : T105 q4 = some 1 := hsub _ _ t_q4
  have t_q9 : T105 q9 = some 1 := hsub _ _ t_q9
  have t_q27 : T105 q27 = some 0 := hsub _ _ t_q27
  have t_q36 : T105 q36 = some 0 := hsub _ _ t_q36
  have t_q45 : T105 q45 = some 0 := hsub _ _ t_q45
  have t_q54 : T105 q54 = some 0 := hsub _ _ t_q54
  have t_q63 : T105 q63 = some 0 := hsub _ _ t_q63
  have t_q72 : T105 q72 = some 0 := hsub _ _ t_q72
  have t_q81 : T105 q81 = some 0 := hsub _ _ t_q81
  have t_q90 : T105 q90 = some 0 := hsub _ _ t_q90
  have hTT : ∀ a t, T a = some t → T105 a = some t := fun a t h => hsub _ _ (hTT a t h)
  have hF : ∀ a, a ≠ h → a < sz → M104 a = M a := fun a h0 h1 => (hfr a (Nat.ne_of_lt (Nat.lt_of_lt_of_le h1 g_q99))).trans (hF a h0 h1)
  refine yqst (ck := 3) (cv := 5) (v := q99) hC hK hH rfl rfl hc_q1 (let ⟨fs, h1, _⟩ := tcell hH t_q99 rfl; ⟨fs, h1⟩) (iIn (by decide) (by decide)) dX1_init_87 (fun H locs M106 hc_q1 hfr hH => ?_)
  have hc_q1 : M106 q1 = some (.inl (kA 3, 12, .inr (.inr (.inr (.inr (va_up (va_up (va_up (va_up (va_up (va_up (va_up (va_up (va_up (fun _ => none) (Int32.toNatClampNeg 0) (some q27)) (Int32.toNatClampNeg 1) (some q36)) (Int32.toNatClampNeg 2) (some q45)) (Int32.toNatClampNeg 3) (some q54)) (Int32.toNatClampNeg 4) (some q63)) (Int32.toNatClampNeg 5) (some q72)) (Int32.toNatClampNeg 6) (some q81)) (Int32.toNatClampNeg 7) (some q90)) (Int32.toNatClampNeg 8) (some q99))))))) := hc_q1
  have hc_h : M106 h = some (.inr (0, [.int 0, .int 0, .int 0, .int 0, .int 0, .int 0, .int 0, .int 0, .int 0, .int 0, .int 0, .int 0, .ref q1, .ref q4, .ref q9, .ref q14, .ref q17, .ref q20, .ref q23])) := (hfr h n_h_q1).trans hc_h
  have hc_q14 : M106 q14 = some (.inl (kA 0, 14, .inl (fun _ => 0))) := (hfr q14 n_q14_q1).trans hc_q14
  have hc_q17 : M106 q17 = some (.inl (kA 0, 14, .inl (fun _ => 0))) := (hfr q17 n_q17_q1).trans hc_q17
  have hc_q20 : M106 q20 = some (.inl (kA 0, 14, .inl (fun _ => 0))) := (hfr q20 n_q20_q1).trans hc_q20
  have hc_q23 : M106 q23 = some (.inl (kA 0, 14, .inl (fun _ => 0))) := (hfr q23 n_q23_q1).trans hc_q23
  have hF : ∀ a, a ≠ h → a < sz → M106 a = M a := fun a h0 h1 => (hfr a (Nat.ne_of_lt (Nat.lt_of_lt_of_le h1 g_q1))).trans (hF a h0 h1)
  refine lv_iinc (v := 9) (lv' := [(1, .int 9), (0, .ref h)]) hx hb dX1_init_88 hl (k := 0) rfl (by decide) (by decide) rfl (fun ls hl => ?_)
  refine lv_goto (tgt := 69) hx hb dX1_init_91 (by decide) ?_
  refine lv_iload_n hx hb dX1_init_69 rfl (lv_at hl 0 rfl) ?_
  refine lv_bipush (v := 12) hx hb dX1_init_70 (by decide) ?_
  refine jic_ge (tgt := 94) hx hb dX1_init_72 (by decide) (fun c107 => absurd c107 (by decide)) (fun c107 => ?_)
  refine lv_aload_n hx hb dX1_init_75 rfl (lv_at hl 1 rfl) ?_
  refine xg hC hK hH flX1_11 hc_h rfl dX1_init_76 ?_
  refine lv_iload_n hx hb dX1_init_79 rfl (lv_at hl 0 rfl) ?_
  refine ynew hC hK hH nlX1_9 (Nat.le_of_ble_eq_true rfl) (Nat.le_of_ble_eq_true rfl) dX1_init_80 (fun q108 H M109 e_q108 hz nM_q108 nT_q108 hc_q108 hfr hN => ?_)
  have g_q108 : sz ≤ q108 := by rw [← hsz, e_q108]; exact hH.2.1.1
  have n_h_q108 : h ≠ q108 := neN hc_h nM_q108
  have n_q108_h : q108 ≠ h := Ne.symm n_h_q108
  have n_q1_q108 : q1 ≠ q108 := neN hc_q1 nM_q108
  have n_q108_q1 : q108 ≠ q1 := Ne.symm n_q1_q108
  have n_q14_q108 : q14 ≠ q108 := neN hc_q14 nM_q108
  have n_q108_q14 : q108 ≠ q14 := Ne.symm n_q14_q108
  have n_q17_q108 : q17 ≠ q108 := neN hc_q17 nM_q108
  have n_q108_q17 : q108 ≠ q17 := Ne.symm n_q17_q108
  have n_q20_q108 : q20 ≠ q108 := neN hc_q20 nM_q108
  have n_q108_q20 : q108 ≠ q20 := Ne.symm n_q20_q108
  have n_q23_q108 : q23 ≠ q108 := neN hc_q23 nM_q108
  have n_q108_q23 : q108 ≠ q23 := Ne.symm n_q23_q108
  have hH := hN
  have hc_q108 : M109 q108 = some (.inr (5, [.int 0, .int 0, .int 0, .int 0, .int 0, .int 0, .int 0, .int 0, .int 0, .int 0, .int 0])) := hc_q108
  have hc_h : M109 h = some (.inr (0, [.int 0, .int 0, .int 0, .int 0, .int 0, .int 0, .int 0, .int 0, .int 0, .int 0, .int 0, .int 0, .ref q1, .ref q4, .ref q9, .ref q14, .ref q17, .ref q20, .ref q23])) := (hfr h n_h_q108).trans hc_h
  have hc_q1 : M109 q1 = some (.inl (kA 3, 12, .inr (.inr (.inr (.inr (va_up (va_up (va_up (va_up (va_up (va_up (va_up (va_up (va_up (fun _ => none) (Int32.toNatClampNeg 0) (some q27)) (Int32.toNatClampNeg 1) (some q36)) (Int32.toNatClampNeg 2) (some q45)) (Int32.toNatClampNeg 3) (some q54)) (Int32.toNatClampNeg 4) (some q63)) (Int32.toNatClampNeg 5) (some q72)) (Int32.toNatClampNeg 6) (some q81)) (Int32.toNatClampNeg 7) (some q90)) (Int32.toNatClampNeg 8) (some q99))))))) := (hfr q1 n_q1_q108).trans hc_q1
  have hc_q14 : M109 q14 = some (.inl (kA 0, 14, .inl (fun _ => 0))) := (hfr q14 n_q14_q108).trans hc_q14
  have hc_q17 : M109 q17 = some (.inl (kA 0, 14, .inl (fun _ => 0))) := (hfr q17 n_q17_q108).trans hc_q17
  have hc_q20 : M109 q20 = some (.inl (kA 0, 14, .inl (fun _ => 0))) := (hfr q20 n_q20_q108).trans hc_q20
  have hc_q23 : M109 q23 = some (.inl (kA 0, 14, .inl (fun _ => 0))) := (hfr q23 n_q23_q108).trans hc_q23
  have hF : ∀ a, a ≠ h → a < sz → M109 a = M a := fun a h0 h1 => (hfr a (Nat.ne_of_lt (Nat.lt_of_lt_of_le h1 g_q108))).trans (hF a h0 h1)
  refine lv_dup hx hb dX1_init_83 rfl ?_
  refine goV hK hH (runIN (As := []) (rest := [.ref q108, .int 9, .ref q1]) hC hK hH (c_X6_init hc_q108) mlX1_40 ⟨⟨Nat.le_of_ble_eq_true rfl, Nat.le_of_ble_eq_true rfl⟩, Nat.le_of_ble_eq_true rfl, Nat.le_of_ble_eq_true rfl⟩ rfl hl.1 rfl (Nat.le_of_ble_eq_true rfl) dX1_init_84) (fun M110 T111 H locs hP hz hH => ?_)
  try dsimp only at hP
  obtain ⟨(-), eT, eM⟩ := hP
  have eT := eT.symm; subst eT
  have eM := eM.symm; subst eM
  obtain ⟨M113, T114, nM_q108, hfr, t_q108, hfT, hsub, hH⟩ := hH.re2 (τ := 0) hc_q108 (conf_o rfl ⟨okI (by decide) (by decide), okI (by decide) (by decide), okI (by decide) (by decide), okI (by decide) (by decide), okI (by decide) (by decide), okI (by decide) (by decide), okI (by decide) (by decide), okI (by decide) (by decide), okI (by decide) (by decide), okI (by decide) (by decide), okI (by decide) (by decide), trivial⟩)
  have hc_h : M113 h = some (.inr (0, [.int 0, .int 0, .int 0, .int 0, .int 0, .int 0, .int 0, .int 0, .int 0, .int 0, .int 0, .int 0, .ref q1, .ref q4, .ref q9, .ref q14, .ref q17, .ref q20, .ref q23])) := (hfr h n_h_q108).trans hc_h
  have hc_q1 : M113 q1 = some (.inl (kA 3, 12, .inr (.inr (.inr (.inr (va_up (va_up (va_up (va_up (va_up (va_up (va_up (va_up (va_up (fun _ => none) (Int32.toNatClampNeg 0) (some q27)) (Int32.toNatClampNeg 1) (some q36)) (Int32.toNatClampNeg 2) (some q45)) (Int32.toNatClampNeg 3) (some q54)) (Int32.toNatClampNeg 4) (some q63)) (Int32.toNatClampNeg 5) (some q72)) (Int32.toNatClampNeg 6) (some q81)) (Int32.toNatClampNeg 7) (some q90)) (Int32.toNatClampNeg 8) (some q99))))))) := (hfr q1 n_q1_q108).trans hc_q1
  have hc_q14 : M113 q14 = some (.inl (kA 0, 14, .inl (fun _ => 0))) := (hfr q14 n_q14_q108).trans hc_q14
  have hc_q17 : M113 q17 = some (.inl (kA 0, 14, .inl (fun _ => 0))) := (hfr q17 n_q17_q108).trans hc_q17
  have hc_q20 : M113 q20 = some (.inl (kA 0, 14, .inl (fun _ => 0))) := (hfr q20 n_q20_q108).trans hc_q20
  have hc_q23 : M113 q23 = some (.inl (kA 0, 14, .inl (fun _ => 0))) := (hfr q23 n_q23_q108).trans hc_q23
  have t_q4 : T114 q4 = some 1 := hsub _ _ t_q4
  have t_q9 : T114 q9 = some 1 := hsub _ _ t_q9
  have t_q27 : T114 q27 = some 0 := hsub _ _ t_q27
  have t_q36 : T114 q36 = some 0 := hsub _ _ t_q36
  have t_q45 : T114 q45 = some 0 := hsub _ _ t_q45
  have t_q54 : T114 q54 = some 0 := hsub _ _ t_q54
  have t_q63 : T114 q63 = some 0 := hsub _ _ t_q63
  have t_q72 : T114 q72 = some 0 := hsub _ _ t_q72
  have t_q81 : T114 q81 = some 0 := hsub _ _ t_q81
  have t_q90 : T114 q90 = some 0 := hsub _ _ t_q90
  have t_q99 : T114 q99 = some 0 := hsub _ _ t_q99
  have hTT : ∀ a t, T a = some t → T114 a = some t := fun a t h => hsub _ _ (hTT a t h)
  have hF : ∀ a, a ≠ h → a < sz → M113 a = M a := fun a h0 h1 => (hfr a (Nat.ne_of_lt (Nat.lt_of_lt_of_le h1 g_q108))).trans (hF a h0 h1)
  refine yqst (ck := 3) (cv := 5) (v := q108) hC hK hH rfl rfl hc_q1 (let ⟨fs, h1, _⟩ := tcell hH t_q108 rfl; ⟨fs, h1⟩) (iIn (by decide) (by decide)) dX1_init_87 (fun H locs M115 hc_q1 hfr hH => ?_)
  have hc_q1 : M115 q1 = some (.inl (kA 3, 12, .inr (.inr (.inr (.inr (va_up (va_up (va_up (va_up (va_up (va_up (va_up (va_up (va_up (va_up (fun _ => none) (Int32.toNatClampNeg 0) (some q27)) (Int32.toNatClampNeg 1) (some q36)) (Int32.toNatClampNeg 2) (some q45)) (Int32.toNatClampNeg 3) (some q54)) (Int32.toNatClampNeg 4) (some q63)) (Int32.toNatClampNeg 5) (some q72)) (Int32.toNatClampNeg 6) (some q81)) (Int32.toNatClampNeg 7) (some q90)) (Int32.toNatClampNeg 8) (some q99)) (Int32.toNatClampNeg 9) (some q108))))))) := hc_q1
  have hc_h : M115 h = some (.inr (0, [.int 0, .int 0, .int 0, .int 0, .int 0, .int 0, .int 0, .int 0, .int 0, .int 0, .int 0, .int 0, .ref q1, .ref q4, .ref q9, .ref q14, .ref q17, .ref q20, .ref q23])) := (hfr h n_h_q1).trans hc_h
  have hc_q14 : M115 q14 = some (.inl (kA 0, 14, .inl (fun _ => 0))) := (hfr q14 n_q14_q1).trans hc_q14
  have hc_q17 : M115 q17 = some (.inl (kA 0, 14, .inl (fun _ => 0))) := (hfr q17 n_q17_q1).trans hc_q17
  have hc_q20 : M115 q20 = some (.inl (kA 0, 14, .inl (fun _ => 0))) := (hfr q20 n_q20_q1).trans hc_q20
  have hc_q23 : M115 q23 = some (.inl (kA 0, 14, .inl (fun _ => 0))) := (hfr q23 n_q23_q1).trans hc_q23
  have hF : ∀ a, a ≠ h → a < sz → M115 a = M a := fun a h0 h1 => (hfr a (Nat.ne_of_lt (Nat.lt_of_lt_of_le h1 g_q1))).trans (hF a h0 h1)
  refine lv_iinc (v := 10) (lv' := [(1, .int 10), (0, .ref h)]) hx hb dX1_init_88 hl (k := 0) rfl (by decide) (by decide) rfl (fun ls hl => ?_)
  refine lv_goto (tgt := 69) hx hb dX1_init_91 (by decide) ?_
  refine lv_iload_n hx hb dX1_init_69 rfl (lv_at hl 0 rfl) ?_
  refine lv_bipush (v := 12) hx hb dX1_init_70 (by decide) ?_
  refine jic_ge (tgt := 94) hx hb dX1_init_72 (by decide) (fun c116 => absurd c116 (by decide)) (fun c116 => ?_)
  refine lv_aload_n hx hb dX1_init_75 rfl (lv_at hl 1 rfl) ?_
  refine xg hC hK hH flX1_11 hc_h rfl dX1_init_76 ?_
  refine lv_iload_n hx hb dX1_init_79 rfl (lv_at hl 0 rfl) ?_
  refine ynew hC hK hH nlX1_9 (Nat.le_of_ble_eq_true rfl) (Nat.le_of_ble_eq_true rfl) dX1_init_80 (fun q117 H M118 e_q117 hz nM_q117 nT_q117 hc_q117 hfr hN => ?_)
  have g_q117 : sz ≤ q117 := by rw [← hsz, e_q117]; exact hH.2.1.1
  have n_h_q117 : h ≠ q117 := neN hc_h nM_q117
  have n_q117_h : q117 ≠ h := Ne.symm n_h_q117
  have n_q1_q117 : q1 ≠ q117 := neN hc_q1 nM_q117
  have n_q117_q1 : q117 ≠ q1 := Ne.symm n_q1_q117
  have n_q14_q117 : q14 ≠ q117 := neN hc_q14 nM_q117
  have n_q117_q14 : q117 ≠ q14 := Ne.symm n_q14_q117
  have n_q17_q117 : q17 ≠ q117 := neN hc_q17 nM_q117
  have n_q117_q17 : q117 ≠ q17 := Ne.symm n_q17_q117
  have n_q20_q117 : q20 ≠ q117 := neN hc_q20 nM_q117
  have n_q117_q20 : q117 ≠ q20 := Ne.symm n_q20_q117
  have n_q23_q117 : q23 ≠ q117 := neN hc_q23 nM_q117
  have n_q117_q23 : q117 ≠ q23 := Ne.symm n_q23_q117
  have hH := hN
  have hc_q117 : M118 q117 = some (.inr (5, [.int 0, .int 0, .int 0, .int 0, .int 0, .int 0, .int 0, .int 0, .int 0, .int 0, .int 0])) := hc_q117
  have hc_h : M118 h = some (.inr (0, [.int 0, .int 0, .int 0, .int 0, .int 0, .int 0, .int 0, .int 0, .int 0, .int 0, .int 0, .int 0, .ref q1, .ref q4, .ref q9, .ref q14, .ref q17, .ref q20, .ref q23])) := (hfr h n_h_q117).trans hc_h
  have hc_q1 : M118 q1 = some (.inl (kA 3, 12, .inr (.inr (.inr (.inr (va_up (va_up (va_up (va_up (va_up (va_up (va_up (va_up (va_up (va_up (fun _ => none) (Int32.toNatClampNeg 0) (some q27)) (Int32.toNatClampNeg 1) (some q36)) (Int32.toNatClampNeg 2) (some q45)) (Int32.toNatClampNeg 3) (some q54)) (Int32.toNatClampNeg 4) (some q63)) (Int32.toNatClampNeg 5) (some q72)) (Int32.toNatClampNeg 6) (some q81)) (Int32.toNatClampNeg 7) (some q90)) (Int32.toNatClampNeg 8) (some q99)) (Int32.toNatClampNeg 9) (some q108))))))) := (hfr q1 n_q1_q117).trans hc_q1
  have hc_q14 : M118 q14 = some (.inl (kA 0, 14, .inl (fun _ => 0))) := (hfr q14 n_q14_q117).trans hc_q14
  have hc_q17 : M118 q17 = some (.inl (kA 0, 14, .inl (fun _ => 0))) := (hfr q17 n_q17_q117).trans hc_q17
  have hc_q20 : M118 q20 = some (.inl (kA 0, 14, .inl (fun _ => 0))) := (hfr q20 n_q20_q117).trans hc_q20
  have hc_q23 : M118 q23 = some (.inl (kA 0, 14, .inl (fun _ => 0))) := (hfr q23 n_q23_q117).trans hc_q23
  have hF : ∀ a, a ≠ h → a < sz → M118 a = M a := fun a h0 h1 => (hfr a (Nat.ne_of_lt (Nat.lt_of_lt_of_le h1 g_q117))).trans (hF a h0 h1)
  refine lv_dup hx hb dX1_init_83 rfl ?_
  refine goV hK hH (runIN (As := []) (rest := [.ref q117, .int 10, .ref q1]) hC hK hH (c_X6_init hc_q117) mlX1_40 ⟨⟨Nat.le_of_ble_eq_true rfl, Nat.le_of_ble_eq_true rfl⟩, Nat.le_of_ble_eq_true rfl, Nat.le_of_ble_eq_true rfl⟩ rfl hl.1 rfl (Nat.le_of_ble_eq_true rfl) dX1_init_84) (fun M119 T120 H locs hP hz hH => ?_)
  try dsimp only at hP
  obtain ⟨(-), eT, eM⟩ := hP
  have eT := eT.symm; subst eT
  have eM := eM.symm; subst eM
  obtain ⟨M122, T123, nM_q117, hfr, t_q117, hfT, hsub, hH⟩ := hH.re2 (τ := 0) hc_q117 (conf_o rfl ⟨okI (by decide) (by decide), okI (by decide) (by decide), okI (by decide) (by decide), okI (by decide) (by decide), okI (by decide) (by decide), okI (by decide) (by decide), okI (by decide) (by decide), okI (by decide) (by decide), okI (by decide) (by decide), okI (by decide) (by decide), okI (by decide) (by decide), trivial⟩)
  have hc_h : M122 h = some (.inr (0, [.int 0, .int 0, .int 0, .int 0, .int 0, .int 0, .int 0, .int 0, .int 0, .int 0, .int 0, .int 0, .ref q1, .ref q4, .ref q9, .ref q14, .ref q17, .ref q20, .ref q23])) := (hfr h n_h_q117).trans hc_h
  have hc_q1 : M122 q1 = some (.inl (kA 3, 12, .inr (.inr (.inr (.inr (va_up (va_up (va_up (va_up (va_up (va_up (va_up (va_up (va_up (va_up (fun _ => none) (Int32.toNatClampNeg 0) (some q27)) (Int32.toNatClampNeg 1) (some q36)) (Int32.toNatClampNeg 2) (some q45)) (Int32.toNatClampNeg 3) (some q54)) (Int32.toNatClampNeg 4) (some q63)) (Int32.toNatClampNeg 5) (some q72)) (Int32.toNatClampNeg 6) (some q81)) (Int32.toNatClampNeg 7) (some q90)) (Int32.toNatClampNeg 8) (some q99)) (Int32.toNatClampNeg 9) (some q108))))))) := (hfr q1 n_q1_q117).trans hc_q1
  have hc_q14 : M122 q14 = some (.inl (kA 0, 14, .inl (fun _ => 0))) := (hfr q14 n_q14_q117).trans hc_q14
  have hc_q17 : M122 q17 = some (.inl (kA 0, 14, .inl (fun _ => 0))) := (hfr q17 n_q17_q117).trans hc_q17
  have hc_q20 : M122 q20 = some (.inl (kA 0, 14, .inl (fun _ => 0))) := (hfr q20 n_q20_q117).trans hc_q20
  have hc_q23 : M122 q23 = some (.inl (kA 0, 14, .inl (fun _ => 0))) := (hfr q23 n_q23_q117).trans hc_q23
  have t_q4 : T123 q4 = some 1 := hsub _ _ t_q4
  have t_q9 : T123 q9 = some 1 := hsub _ _ t_q9
  have t_q27 : T123 q27 = some 0 := hsub _ _ t_q27
  have t_q36 : T123 q36 = some 0 := hsub _ _ t_q36
  have t_q45 : T123 q45 = some 0 := hsub _ _ t_q45
  have t_q54 : T123 q54 = some 0 := hsub _ _ t_q54
  have t_q63 : T123 q63 = some 0 := hsub _ _ t_q63
  have t_q72 : T123 q72 = some 0 := hsub _ _ t_q72
  have t_q81 : T123 q81 = some 0 := hsub _ _ t_q81
  have t_q90 : T123 q90 = some 0 := hsub _ _ t_q90
  have t_q99 : T123 q99 = some 0 := hsub _ _ t_q99
  have t_q108 : T123 q108 = some 0 := hsub _ _ t_q108
  have hTT : ∀ a t, T a = some t → T123 a = some t := fun a t h => hsub _ _ (hTT a t h)
  have hF : ∀ a, a ≠ h → a < sz → M122 a = M a := fun a h0 h1 => (hfr a (Nat.ne_of_lt (Nat.lt_of_lt_of_le h1 g_q117))).trans (hF a h0 h1)
  refine yqst (ck := 3) (cv := 5) (v := q117) hC hK hH rfl rfl hc_q1 (let ⟨fs, h1, _⟩ := tcell hH t_q117 rfl; ⟨fs, h1⟩) (iIn (by decide) (by decide)) dX1_init_87 (fun H locs M124 hc_q1 hfr hH => ?_)
  have hc_q1 : M124 q1 = some (.inl (kA 3, 12, .inr (.inr (.inr (.inr (va_up (va_up (va_up (va_up (va_up (va_up (va_up (va_up (va_up (va_up (va_up (fun _ => none) (Int32.toNatClampNeg 0) (some q27)) (Int32.toNatClampNeg 1) (some q36)) (Int32.toNatClampNeg 2) (some q45)) (Int32.toNatClampNeg 3) (some q54)) (Int32.toNatClampNeg 4) (some q63)) (Int32.toNatClampNeg 5) (some q72)) (Int32.toNatClampNeg 6) (some q81)) (Int32.toNatClampNeg 7) (some q90)) (Int32.toNatClampNeg 8) (some q99)) (Int32.toNatClampNeg 9) (some q108)) (Int32.toNatClampNeg 10) (some q117))))))) := hc_q1
  have hc_h : M124 h = some (.inr (0, [.int 0, .int 0, .int 0, .int 0, .int 0, .int 0, .int 0, .int 0, .int 0, .int 0, .int 0, .int 0, .ref q1, .ref q4, .ref q9, .ref q14, .ref q17, .ref q20, .ref q23])) := (hfr h n_h_q1).trans hc_h
  have hc_q14 : M124 q14 = some (.inl (kA 0, 14, .inl (fun _ => 0))) := (hfr q14 n_q14_q1).trans hc_q14
  have hc_q17 : M124 q17 = some (.inl (kA 0, 14, .inl (fun _ => 0))) := (hfr q17 n_q17_q1).trans hc_q17
  have hc_q20 : M124 q20 = some (.inl (kA 0, 14, .inl (fun _ => 0))) := (hfr q20 n_q20_q1).trans hc_q20
  have hc_q23 : M124 q23 = some (.inl (kA 0, 14, .inl (fun _ => 0))) := (hfr q23 n_q23_q1).trans hc_q23
  have hF : ∀ a, a ≠ h → a < sz → M124 a = M a := fun a h0 h1 => (hfr a (Nat.ne_of_lt (Nat.lt_of_lt_of_le h1 g_q1))).trans (hF a h0 h1)
  refine lv_iinc (v := 11) (lv' := [(1, .int 11), (0, .ref h)]) hx hb dX1_init_88 hl (k := 0) rfl (by decide) (by decide) rfl (fun ls hl => ?_)
  refine lv_goto (tgt := 69) hx hb dX1_init_91 (by decide) ?_
  refine lv_iload_n hx hb dX1_init_69 rfl (lv_at hl 0 rfl) ?_
  refine lv_bipush (v := 12) hx hb dX1_init_70 (by decide) ?_
  refine jic_ge (tgt := 94) hx hb dX1_init_72 (by decide) (fun c125 => absurd c125 (by decide)) (fun c125 => ?_)
  refine lv_aload_n hx hb dX1_init_75 rfl (lv_at hl 1 rfl) ?_
  refine xg hC hK hH flX1_11 hc_h rfl dX1_init_76 ?_
  refine lv_iload_n hx hb dX1_init_79 rfl (lv_at hl 0 rfl) ?_
  refine ynew hC hK hH nlX1_9 (Nat.le_of_ble_eq_true rfl) (Nat.le_of_ble_eq_true rfl) dX1_init_80 (fun q126 H M127 e_q126 hz nM_q126 nT_q126 hc_q126 hfr hN => ?_)
  have g_q126 : sz ≤ q126 := by rw [← hsz, e_q126]; exact hH.2.1.1
  have n_h_q126 : h ≠ q126 := neN hc_h nM_q126
  have n_q126_h : q126 ≠ h := Ne.symm n_h_q126
  have n_q1_q126 : q1 ≠ q126 := neN hc_q1 nM_q126
  have n_q126_q1 : q126 ≠ q1 := Ne.symm n_q1_q126
  have n_q14_q126 : q14 ≠ q126 := neN hc_q14 nM_q126
  have n_q126_q14 : q126 ≠ q14 := Ne.symm n_q14_q126
  have n_q17_q126 : q17 ≠ q126 := neN hc_q17 nM_q126
  have n_q126_q17 : q126 ≠ q17 := Ne.symm n_q17_q126
  have n_q20_q126 : q20 ≠ q126 := neN hc_q20 nM_q126
  have n_q126_q20 : q126 ≠ q20 := Ne.symm n_q20_q126
  have n_q23_q126 : q23 ≠ q126 := neN hc_q23 nM_q126
  have n_q126_q23 : q126 ≠ q23 := Ne.symm n_q23_q126
  have hH := hN
  have hc_q126 : M127 q126 = some (.inr (5, [.int 0, .int 0, .int 0, .int 0, .int 0, .int 0, .int 0, .int 0, .int 0, .int 0, .int 0])) := hc_q126
  have hc_h : M127 h = some (.inr (0, [.int 0, .int 0, .int 0, .int 0, .int 0, .int 0, .int 0, .int 0, .int 0, .int 0, .int 0, .int 0, .ref q1, .ref q4, .ref q9, .ref q14, .ref q17, .ref q20, .ref q23])) := (hfr h n_h_q126).trans hc_h
  have hc_q1 : M127 q1 = some (.inl (kA 3, 12, .inr (.inr (.inr (.inr (va_up (va_up (va_up (va_up (va_up (va_up (va_up (va_up (va_up (va_up (va_up (fun _ => none) (Int32.toNatClampNeg 0) (some q27)) (Int32.toNatClampNeg 1) (some q36)) (Int32.toNatClampNeg 2) (some q45)) (Int32.toNatClampNeg 3) (some q54)) (Int32.toNatClampNeg 4) (some q63)) (Int32.toNatClampNeg 5) (some q72)) (Int32.toNatClampNeg 6) (some q81)) (Int32.toNatClampNeg 7) (some q90)) (Int32.toNatClampNeg 8) (some q99)) (Int32.toNatClampNeg 9) (some q108)) (Int32.toNatClampNeg 10) (some q117))))))) := (hfr q1 n_q1_q126).trans hc_q1
  have hc_q14 : M127 q14 = some (.inl (kA 0, 14, .inl (fun _ => 0))) := (hfr q14 n_q14_q126).trans hc_q14
  have hc_q17 : M127 q17 = some (.inl (kA 0, 14, .inl (fun _ => 0))) := (hfr q17 n_q17_q126).trans hc_q17
  have hc_q20 : M127 q20 = some (.inl (kA 0, 14, .inl (fun _ => 0))) := (hfr q20 n_q20_q126).trans hc_q20
  have hc_q23 : M127 q23 = some (.inl (kA 0, 14, .inl (fun _ => 0))) := (hfr q23 n_q23_q126).trans hc_q23
  have hF : ∀ a, a ≠ h → a < sz → M127 a = M a := fun a h0 h1 => (hfr a (Nat.ne_of_lt (Nat.lt_of_lt_of_le h1 g_q126))).trans (hF a h0 h1)
  refine lv_dup hx hb dX1_init_83 rfl ?_
  refine goV hK hH (runIN (As := []) (rest := [.ref q126, .int 11, .ref q1]) hC hK hH (c_X6_init hc_q126) mlX1_40 ⟨⟨Nat.le_of_ble_eq_true rfl, Nat.le_of_ble_eq_true rfl⟩, Nat.le_of_ble_eq_true rfl, Nat.le_of_ble_eq_true rfl⟩ rfl hl.1 rfl (Nat.le_of_ble_eq_true rfl) dX1_init_84) (fun M128 T129 H locs hP hz hH => ?_)
  try dsimp only at hP
  obtain ⟨(-), eT, eM⟩ := hP
  have eT := eT.symm; subst eT
  have eM := eM.symm; subst eM
  obtain ⟨M131, T132, nM_q126, hfr, t_q126, hfT, hsub, hH⟩ := hH.re2 (τ := 0) hc_q126 (conf_o rfl ⟨okI (by decide) (by decide), okI (by decide) (by decide), okI (by decide) (by decide), okI (by decide) (by decide), okI (by decide) (by decide), okI (by decide) (by decide), okI (by decide) (by decide), okI (by decide) (by decide), okI (by decide) (by decide), okI (by decide) (by decide), okI (by decide) (by decide), trivial⟩)
  have hc_h : M131 h = some (.inr (0, [.int 0, .int 0, .int 0, .int 0, .int 0, .int 0, .int 0, .int 0, .int 0, .int 0, .int 0, .int 0, .ref q1, .ref q4, .ref q9, .ref q14, .ref q17, .ref q20, .ref q23])) := (hfr h n_h_q126).trans hc_h
  have hc_q1 : M131 q1 = some (.inl (kA 3, 12, .inr (.inr (.inr (.inr (va_up (va_up (va_up (va_up (va_up (va_up (va_up (va_up (va_up (va_up (va_up (fun _ => none) (Int32.toNatClampNeg 0) (some q27)) (Int32.toNatClampNeg 1) (some q36)) (Int32.toNatClampNeg 2) (some q45)) (Int32.toNatClampNeg 3) (some q54)) (Int32.toNatClampNeg 4) (some q63)) (Int32.toNatClampNeg 5) (some q72)) (Int32.toNatClampNeg 6) (some q81)) (Int32.toNatClampNeg 7) (some q90)) (Int32.toNatClampNeg 8) (some q99)) (Int32.toNatClampNeg 9) (some q108)) (Int32.toNatClampNeg 10) (some q117))))))) := (hfr q1 n_q1_q126).trans hc_q1
  have hc_q14 : M131 q14 = some (.inl (kA 0, 14, .inl (fun _ => 0))) := (hfr q14 n_q14_q126).trans hc_q14
  have hc_q17 : M131 q17 = some (.inl (kA 0, 14, .inl (fun _ => 0))) := (hfr q17 n_q17_q126).trans hc_q17
  have hc_q20 : M131 q20 = some (.inl (kA 0, 14, .inl (fun _ => 0))) := (hfr q20 n_q20_q126).trans hc_q20
  have hc_q23 : M131 q23 = some (.inl (kA 0, 14, .inl (fun _ => 0))) := (hfr q23 n_q23_q126).trans hc_q23
  have t_q4 : T132 q4 = some 1 := hsub _ _ t_q4
  have t_q9 : T132 q9 = some 1 := hsub _ _ t_q9
  have t_q27 : T132 q27 = some 0 := hsub _ _ t_q27
  have t_q36 : T132 q36 = some 0 := hsub _ _ t_q36
  have t_q45 : T132 q45 = some 0 := hsub _ _ t_q45
  have t_q54 : T132 q54 = some 0 := hsub _ _ t_q54
  have t_q63 : T132 q63 = some 0 := hsub _ _ t_q63
  have t_q72 : T132 q72 = some 0 := hsub _ _ t_q72
  have t_q81 : T132 q81 = some 0 := hsub _ _ t_q81
  have t_q90 : T132 q90 = some 0 := hsub _ _ t_q90
  have t_q99 : T132 q99 = some 0 := hsub _ _ t_q99
  have t_q108 : T132 q108 = some 0 := hsub _ _ t_q108
  have t_q117 : T132 q117 = some 0 := hsub _ _ t_q117
  have hTT : ∀ a t, T a = some t → T132 a = some t := fun a t h => hsub _ _ (hTT a t h)
  have hF : ∀ a, a ≠ h → a < sz → M131 a = M a := fun a h0 h1 => (hfr a (Nat.ne_of_lt (Nat.lt_of_lt_of_le h1 g_q126))).trans (hF a h0 h1)
  refine yqst (ck := 3) (cv := 5) (v := q126) hC hK hH rfl rfl hc_q1 (let ⟨fs, h1, _⟩ := tcell hH t_q126 rfl; ⟨fs, h1⟩) (iIn (by decide) (by decide)) dX1_init_87 (fun H locs M133 hc_q1 hfr hH => ?_)
  have hc_q1 : M133 q1 = some (.inl (kA 3, 12, .inr (.inr (.inr (.inr (va_up (va_up (va_up (va_up (va_up (va_up (va_up (va_up (va_up (va_up (va_up (va_up (fun _ => none) (Int32.toNatClampNeg 0) (some q27)) (Int32.toNatClampNeg 1) (some q36)) (Int32.toNatClampNeg 2) (some q45)) (Int32.toNatClampNeg 3) (some q54)) (Int32.toNatClampNeg 4) (some q63)) (Int32.toNatClampNeg 5) (some q72)) (Int32.toNatClampNeg 6) (some q81)) (Int32.toNatClampNeg 7) (some q90)) (Int32.toNatClampNeg 8) (some q99)) (Int32.toNatClampNeg 9) (some q108)) (Int32.toNatClampNeg 10) (some q117)) (Int32.toNatClampNeg 11) (some q126))))))) := hc_q1
  have hc_h : M133 h = some (.inr (0, [.int 0, .int 0, .int 0, .int 0, .int 0, .int 0, .int 0, .int 0, .int 0, .int 0, .int 0, .int 0, .ref q1, .ref q4, .ref q9, .ref q14, .ref q17, .ref q20, .ref q23])) := (hfr h n_h_q1).trans hc_h
  have hc_q14 : M133 q14 = some (.inl (kA 0, 14, .inl (fun _ => 0))) := (hfr q14 n_q14_q1).trans hc_q14
  have hc_q17 : M133 q17 = some (.inl (kA 0, 14, .inl (fun _ => 0))) := (hfr q17 n_q17_q1).trans hc_q17
  have hc_q20 : M133 q20 = some (.inl (kA 0, 14, .inl (fun _ => 0))) := (hfr q20 n_q20_q1).trans hc_q20
  have hc_q23 : M133 q23 = some (.inl (kA 0, 14, .inl (fun _ => 0))) := (hfr q23 n_q23_q1).trans hc_q23
  have hF : ∀ a, a ≠ h → a < sz → M133 a = M a := fun a h0 h1 => (hfr a (Nat.ne_of_lt (Nat.lt_of_lt_of_le h1 g_q1))).trans (hF a h0 h1)
  refine lv_iinc (v := 12) (lv' := [(1, .int 12), (0, .ref h)]) hx hb dX1_init_88 hl (k := 0) rfl (by decide) (by decide) rfl (fun ls hl => ?_)
  refine lv_goto (tgt := 69) hx hb dX1_init_91 (by decide) ?_
  refine lv_iload_n hx hb dX1_init_69 rfl (lv_at hl 0 rfl) ?_
  refine lv_bipush (v := 12) hx hb dX1_init_70 (by decide) ?_
  refine jic_ge (tgt := 94) hx hb dX1_init_72 (by decide) (fun c134 => ?_) (fun c134 => absurd c134 (by decide))
  have hq : ∀ j, j < 12 → ∃ q, (va_up (va_up (va_up (va_up (va_up (va_up (va_up (va_up (va_up (va_up (va_up (va_up (fun _ => none) (Int32.toNatClampNeg 0) (some q27)) (Int32.toNatClampNeg 1) (some q36)) (Int32.toNatClampNeg 2) (some q45)) (Int32.toNatClampNeg 3) (some q54)) (Int32.toNatClampNeg 4) (some q63)) (Int32.toNatClampNeg 5) (some q72)) (Int32.toNatClampNeg 6) (some q81)) (Int32.toNatClampNeg 7) (some q90)) (Int32.toNatClampNeg 8) (some q99)) (Int32.toNatClampNeg 9) (some q108)) (Int32.toNatClampNeg 10) (some q117)) (Int32.toNatClampNeg 11) (some q126)) j = some q ∧ T132 q = some 0 := by
    intro j hj
    rcases (show j = 0 ∨ j = 1 ∨ j = 2 ∨ j = 3 ∨ j = 4 ∨ j = 5 ∨ j = 6 ∨ j = 7 ∨ j = 8 ∨ j = 9 ∨ j = 10 ∨ j = 11 by omega) with rfl | rfl | rfl | rfl | rfl | rfl | rfl | rfl | rfl | rfl | rfl | rfl
    · exact ⟨q27, rfl, t_q27⟩
    · exact ⟨q36, rfl, t_q36⟩
    · exact ⟨q45, rfl, t_q45⟩
    · exact ⟨q54, rfl, t_q54⟩
    · exact ⟨q63, rfl, t_q63⟩
    · exact ⟨q72, rfl, t_q72⟩
    · exact ⟨q81, rfl, t_q81⟩
    · exact ⟨q90, rfl, t_q90⟩
    · exact ⟨q99, rfl, t_q99⟩
    · exact ⟨q108, rfl, t_q108⟩
    · exact ⟨q117, rfl, t_q117⟩
    · exact ⟨q126, rfl, t_q126⟩
  obtain ⟨M135, T136, nM_q1, hfr, t_q1, hfT, hsub, hH⟩ := hH.re2 (τ := 4) hc_q1 (conf_q rfl (fun j hj => let ⟨q, h1, h2⟩ := hq j hj; ⟨q, h1, by rw [upN _ _ (fun z => by rw [z, hH.1.TN (by rw [hc_q1]; simp)] at h2; cases h2)]; exact h2⟩))
  have hc_h : M135 h = some (.inr (0, [.int 0, .int 0, .int 0, .int 0, .int 0, .int 0, .int 0, .int 0, .int 0, .int 0, .int 0, .int 0, .ref q1, .ref q4, .ref q9, .ref q14, .ref q17, .ref q20, .ref q23])) := (hfr h n_h_q1).trans hc_h
  have hc_q14 : M135 q14 = some (.inl (kA 0, 14, .inl (fun _ => 0))) := (hfr q14 n_q14_q1).trans hc_q14
  have hc_q17 : M135 q17 = some (.inl (kA 0, 14, .inl (fun _ => 0))) := (hfr q17 n_q17_q1).trans hc_q17
  have hc_q20 : M135 q20 = some (.inl (kA 0, 14, .inl (fun _ => 0))) := (hfr q20 n_q20_q1).trans hc_q20
  have hc_q23 : M135 q23 = some (.inl (kA 0, 14, .inl (fun _ => 0))) := (hfr q23 n_q23_q1).trans hc_q23
  have t_q4 : T136 q4 = some 1 := hsub _ _ t_q4
  have t_q9 : T136 q9 = some 1 := hsub _ _ t_q9
  have t_q27 : T136 q27 = some 0 := hsub _ _ t_q27
  have t_q36 : T136 q36 = some 0 := hsub _ _ t_q36
  have t_q45 : T136 q45 = some 0 := hsub _ _ t_q45
  have t_q54 : T136 q54 = some 0 := hsub _ _ t_q54
  have t_q63 : T136 q63 = some 0 := hsub _ _ t_q63
  have t_q72 : T136 q72 = some 0 := hsub _ _ t_q72
  have t_q81 : T136 q81 = some 0 := hsub _ _ t_q81
  have t_q90 : T136 q90 = some 0 := hsub _ _ t_q90
  have t_q99 : T136 q99 = some 0 := hsub _ _ t_q99
  have t_q108 : T136 q108 = some 0 := hsub _ _ t_q108
  have t_q117 : T136 q117 = some 0 := hsub _ _ t_q117
  have t_q126 : T136 q126 = some 0 := hsub _ _ t_q126
  have hTT : ∀ a t, T a = some t → T136 a = some t := fun a t h => hsub _ _ (hTT a t h)
  have hF : ∀ a, a ≠ h → a < sz → M135 a = M a := fun a h0 h1 => (hfr a (Nat.ne_of_lt (Nat.lt_of_lt_of_le h1 g_q1))).trans (hF a h0 h1)
  obtain ⟨M137, T138, nM_q14, hfr, t_q14, hfT, hsub, hH⟩ := hH.re2 (τ := 5) hc_q14 (conf_i rfl (fun _ _ => iRg _))
  have hc_h : M137 h = some (.inr (0, [.int 0, .int 0, .int 0, .int 0, .int 0, .int 0, .int 0, .int 0, .int 0, .int 0, .int 0, .int 0, .ref q1, .ref q4, .ref q9, .ref q14, .ref q17, .ref q20, .ref q23])) := (hfr h n_h_q14).trans hc_h
  have hc_q17 : M137 q17 = some (.inl (kA 0, 14, .inl (fun _ => 0))) := (hfr q17 n_q17_q14).trans hc_q17
  have hc_q20 : M137 q20 = some (.inl (kA 0, 14, .inl (fun _ => 0))) := (hfr q20 n_q20_q14).trans hc_q20
  have hc_q23 : M137 q23 = some (.inl (kA 0, 14, .inl (fun _ => 0))) := (hfr q23 n_q23_q14).trans hc_q23
  have t_q4 : T138 q4 = some 1 := hsub _ _ t_q4
  have t_q9 : T138 q9 = some 1 := hsub _ _ t_q9
  have t_q27 : T138 q27 = some 0 := hsub _ _ t_q27
  have t_q36 : T138 q36 = some 0 := hsub _ _ t_q36
  have t_q45 : T138 q45 = some 0 := hsub _ _ t_q45
  have t_q54 : T138 q54 = some 0 := hsub _ _ t_q54
  have t_q63 : T138 q63 = some 0 := hsub _ _ t_q63
  have t_q72 : T138 q72 = some 0 := hsub _ _ t_q72
  have t_q81 : T138 q81 = some 0 := hsub _ _ t_q81
  have t_q90 : T138 q90 = some 0 := hsub _ _ t_q90
  have t_q99 : T138 q99 = some 0 := hsub _ _ t_q99
  have t_q108 : T138 q108 = some 0 := hsub _ _ t_q108
  have t_q117 : T138 q117 = some 0 := hsub _ _ t_q117
  have t_q126 : T138 q126 = some 0 := hsub _ _ t_q126
  have t_q1 : T138 q1 = some 4 := hsub _ _ t_q1
  have hTT : ∀ a t, T a = some t → T138 a = some t := fun a t h => hsub _ _ (hTT a t h)
  have hF : ∀ a, a ≠ h → a < sz → M137 a = M a := fun a h0 h1 => (hfr a (Nat.ne_of_lt (Nat.lt_of_lt_of_le h1 g_q14))).trans (hF a h0 h1)
  obtain ⟨M139, T140, nM_q17, hfr, t_q17, hfT, hsub, hH⟩ := hH.re2 (τ := 5) hc_q17 (conf_i rfl (fun _ _ => iRg _))
  have hc_h : M139 h = some (.inr (0, [.int 0, .int 0, .int 0, .int 0, .int 0, .int 0, .int 0, .int 0, .int 0, .int 0, .int 0, .int 0, .ref q1, .ref q4, .ref q9, .ref q14, .ref q17, .ref q20, .ref q23])) := (hfr h n_h_q17).trans hc_h
  have hc_q20 : M139 q20 = some (.inl (kA 0, 14, .inl (fun _ => 0))) := (hfr q20 n_q20_q17).trans hc_q20
  have hc_q23 : M139 q23 = some (.inl (kA 0, 14, .inl (fun _ => 0))) := (hfr q23 n_q23_q17).trans hc_q23
  have t_q4 : T140 q4 = some 1 := hsub _ _ t_q4
  have t_q9 : T140 q9 = some 1 := hsub _ _ t_q9
  have t_q27 : T140 q27 = some 0 := hsub _ _ t_q27
  have t_q36 : T140 q36 = some 0 := hsub _ _ t_q36
  have t_q45 : T140 q45 = some 0 := hsub _ _ t_q45
  have t_q54 : T140 q54 = some 0 := hsub _ _ t_q54
  have t_q63 : T140 q63 = some 0 := hsub _ _ t_q63
  have t_q72 : T140 q72 = some 0 := hsub _ _ t_q72
  have t_q81 : T140 q81 = some 0 := hsub _ _ t_q81
  have t_q90 : T140 q90 = some 0 := hsub _ _ t_q90
  have t_q99 : T140 q99 = some 0 := hsub _ _ t_q99
  have t_q108 : T140 q108 = some 0 := hsub _ _ t_q108
  have t_q117 : T140 q117 = some 0 := hsub _ _ t_q117
  have t_q126 : T140 q126 = some 0 := hsub _ _ t_q126
  have t_q1 : T140 q1 = some 4 := hsub _ _ t_q1
  have t_q14 : T140 q14 = some 5 := hsub _ _ t_q14
  have hTT : ∀ a t, T a = some t → T140 a = some t := fun a t h => hsub _ _ (hTT a t h)
  have hF : ∀ a, a ≠ h → a < sz → M139 a = M a := fun a h0 h1 => (hfr a (Nat.ne_of_lt (Nat.lt_of_lt_of_le h1 g_q17))).trans (hF a h0 h1)
  obtain ⟨M141, T142, nM_q20, hfr, t_q20, hfT, hsub, hH⟩ := hH.re2 (τ := 5) hc_q20 (conf_i rfl (fun _ _ => iRg _))
  have hc_h : M141 h = some (.inr (0, [.int 0, .int 0, .int 0, .int 0, .int 0, .int 0, .int 0, .int 0, .int 0, .int 0, .int 0, .int 0, .ref q1, .ref q4, .ref q9, .ref q14, .ref q17, .ref q20, .ref q23])) := (hfr h n_h_q20).trans hc_h
  have hc_q23 : M141 q23 = some (.inl (kA 0, 14, .inl (fun _ => 0))) := (hfr q23 n_q23_q20).trans hc_q23
  have t_q4 : T142 q4 = some 1 := hsub _ _ t_q4
  have t_q9 : T142 q9 = some 1 := hsub _ _ t_q9
  have t_q27 : T142 q27 = some 0 := hsub _ _ t_q27
  have t_q36 : T142 q36 = some 0 := hsub _ _ t_q36
  have t_q45 : T142 q45 = some 0 := hsub _ _ t_q45
  have t_q54 : T142 q54 = some 0 := hsub _ _ t_q54
  have t_q63 : T142 q63 = some 0 := hsub _ _ t_q63
  have t_q72 : T142 q72 = some 0 := hsub _ _ t_q72
  have t_q81 : T142 q81 = some 0 := hsub _ _ t_q81
  have t_q90 : T142 q90 = some 0 := hsub _ _ t_q90
  have t_q99 : T142 q99 = some 0 := hsub _ _ t_q99
  have t_q108 : T142 q108 = some 0 := hsub _ _ t_q108
  have t_q117 : T142 q117 = some 0 := hsub _ _ t_q117
  have t_q126 : T142 q126 = some 0 := hsub _ _ t_q126
  have t_q1 : T142 q1 = some 4 := hsub _ _ t_q1
  have t_q14 : T142 q14 = some 5 := hsub _ _ t_q14
  have t_q17 : T142 q17 = some 5 := hsub _ _ t_q17
  have hTT : ∀ a t, T a = some t → T142 a = some t := fun a t h => hsub _ _ (hTT a t h)
  have hF : ∀ a, a ≠ h → a < sz → M141 a = M a := fun a h0 h1 => (hfr a (Nat.ne_of_lt (Nat.lt_of_lt_of_le h1 g_q20))).trans (hF a h0 h1)
  obtain ⟨M143, T144, nM_q23, hfr, t_q23, hfT, hsub, hH⟩ := hH.re2 (τ := 5) hc_q23 (conf_i rfl (fun _ _ => iRg _))
  have hc_h : M143 h = some (.inr (0, [.int 0, .int 0, .int 0, .int 0, .int 0, .int 0, .int 0, .int 0, .int 0, .int 0, .int 0, .int 0, .ref q1, .ref q4, .ref q9, .ref q14, .ref q17, .ref q20, .ref q23])) := (hfr h n_h_q23).trans hc_h
  have t_q4 : T144 q4 = some 1 := hsub _ _ t_q4
  have t_q9 : T144 q9 = some 1 := hsub _ _ t_q9
  have t_q27 : T144 q27 = some 0 := hsub _ _ t_q27
  have t_q36 : T144 q36 = some 0 := hsub _ _ t_q36
  have t_q45 : T144 q45 = some 0 := hsub _ _ t_q45
  have t_q54 : T144 q54 = some 0 := hsub _ _ t_q54
  have t_q63 : T144 q63 = some 0 := hsub _ _ t_q63
  have t_q72 : T144 q72 = some 0 := hsub _ _ t_q72
  have t_q81 : T144 q81 = some 0 := hsub _ _ t_q81
  have t_q90 : T144 q90 = some 0 := hsub _ _ t_q90
  have t_q99 : T144 q99 = some 0 := hsub _ _ t_q99
  have t_q108 : T144 q108 = some 0 := hsub _ _ t_q108
  have t_q117 : T144 q117 = some 0 := hsub _ _ t_q117
  have t_q126 : T144 q126 = some 0 := hsub _ _ t_q126
  have t_q1 : T144 q1 = some 4 := hsub _ _ t_q1
  have t_q14 : T144 q14 = some 5 := hsub _ _ t_q14
  have t_q17 : T144 q17 = some 5 := hsub _ _ t_q17
  have t_q20 : T144 q20 = some 5 := hsub _ _ t_q20
  have hTT : ∀ a t, T a = some t → T144 a = some t := fun a t h => hsub _ _ (hTT a t h)
  have hF : ∀ a, a ≠ h → a < sz → M143 a = M a := fun a h0 h1 => (hfr a (Nat.ne_of_lt (Nat.lt_of_lt_of_le h1 g_q23))).trans (hF a h0 h1)
  obtain ⟨M145, T146, nM_h, hfr, t_h, hfT, hsub, hH⟩ := hH.re2 (τ := 2) hc_h (conf_o rfl ⟨okI (by decide) (by decide), okI (by decide) (by decide), okI (by decide) (by decide), okI (by decide) (by decide), okI (by decide) (by decide), okI (by decide) (by decide), okI (by decide) (by decide), okI (by decide) (by decide), okI (by decide) (by decide), okI (by decide) (by decide), okI (by decide) (by decide), okI (by decide) (by decide), okR (by rw [upN _ _ (fun z => by rw [z] at t_q1; rw [hH.1.TN (by rw [hc_h]; simp)] at t_q1; cases t_q1)]; exact t_q1), okR (by rw [upN _ _ (fun z => by rw [z] at t_q4; rw [hH.1.TN (by rw [hc_h]; simp)] at t_q4; cases t_q4)]; exact t_q4), okR (by rw [upN _ _ (fun z => by rw [z] at t_q9; rw [hH.1.TN (by rw [hc_h]; simp)] at t_q9; cases t_q9)]; exact t_q9), okR (by rw [upN _ _ (fun z => by rw [z] at t_q14; rw [hH.1.TN (by rw [hc_h]; simp)] at t_q14; cases t_q14)]; exact t_q14), okR (by rw [upN _ _ (fun z => by rw [z] at t_q17; rw [hH.1.TN (by rw [hc_h]; simp)] at t_q17; cases t_q17)]; exact t_q17), okR (by rw [upN _ _ (fun z => by rw [z] at t_q20; rw [hH.1.TN (by rw [hc_h]; simp)] at t_q20; cases t_q20)]; exact t_q20), okR (by rw [upN _ _ (fun z => by rw [z] at t_q23; rw [hH.1.TN (by rw [hc_h]; simp)] at t_q23; cases t_q23)]; exact t_q23), trivial⟩)
  have t_q4 : T146 q4 = some 1 := hsub _ _ t_q4
  have t_q9 : T146 q9 = some 1 := hsub _ _ t_q9
  have t_q27 : T146 q27 = some 0 := hsub _ _ t_q27
  have t_q36 : T146 q36 = some 0 := hsub _ _ t_q36
  have t_q45 : T146 q45 = some 0 := hsub _ _ t_q45
  have t_q54 : T146 q54 = some 0 := hsub _ _ t_q54
  have t_q63 : T146 q63 = some 0 := hsub _ _ t_q63
  have t_q72 : T146 q72 = some 0 := hsub _ _ t_q72
  have t_q81 : T146 q81 = some 0 := hsub _ _ t_q81
  have t_q90 : T146 q90 = some 0 := hsub _ _ t_q90
  have t_q99 : T146 q99 = some 0 := hsub _ _ t_q99
  have t_q108 : T146 q108 = some 0 := hsub _ _ t_q108
  have t_q117 : T146 q117 = some 0 := hsub _ _ t_q117
  have t_q126 : T146 q126 = some 0 := hsub _ _ t_q126
  have t_q1 : T146 q1 = some 4 := hsub _ _ t_q1
  have t_q14 : T146 q14 = some 5 := hsub _ _ t_q14
  have t_q17 : T146 q17 = some 5 := hsub _ _ t_q17
  have t_q20 : T146 q20 = some 5 := hsub _ _ t_q20
  have t_q23 : T146 q23 = some 5 := hsub _ _ t_q23
  have hTT : ∀ a t, T a = some t → T146 a = some t := fun a t h => hsub _ _ (hTT a t h)
  have hF : ∀ a, a ≠ h → a < sz → M145 a = M a := fun a h0 h1 => (hfr a h0).trans (hF a h0 h1)
  exact ret_v hC hr hlk hK hH (⟨nM_h, t_h, hTT, hF⟩) (Nat.le_of_ble_eq_true rfl) (Nat.le_of_ble_eq_true rfl) dX1_init_94
end
section
theorem dX3_init_0 : decode cX3_init 0 = .ok (.aload_n 0, 1) := by decide +kernel
theorem dX3_init_1 : decode cX3_init 1 = .ok (.invokespecial 3, 3) := by decide +kernel
theorem dX3_init_4 : decode cX3_init 4 = .ok (.aload_n 0, 1) := by decide +kernel
theorem dX3_init_5 : decode cX3_init 5 = .ok (.bipush 13, 2) := by decide +kernel
theorem dX3_init_7 : decode cX3_init 7 = .ok (.anewarray 9, 3) := by decide +kernel
theorem dX3_init_10 : decode cX3_init 10 = .ok (.putfield 11, 3) := by decide +kernel
theorem dX3_init_13 : decode cX3_init 13 = .ok (.iconst 0, 1) := by decide +kernel
theorem dX3_init_14 : decode cX3_init 14 = .ok (.istore_n 1, 1) := by decide +kernel
theorem dX3_init_15 : decode cX3_init 15 = .ok (.iload_n 1, 1) := by decide +kernel
theorem dX3_init_16 : decode cX3_init 16 = .ok (.bipush 12, 2) := by decide +kernel
theorem dX3_init_18 : decode cX3_init 18 = .ok (.if_icmp .gt 22, 3) := by decide +kernel
theorem dX3_init_21 : decode cX3_init 21 = .ok (.aload_n 0, 1) := by decide +kernel
theorem dX3_init_22 : decode cX3_init 22 = .ok (.getfield 11, 3) := by decide +kernel
theorem dX3_init_25 : decode cX3_init 25 = .ok (.iload_n 1, 1) := by decide +kernel
theorem dX3_init_26 : decode cX3_init 26 = .ok (.new 9, 3) := by decide +kernel
theorem dX3_init_29 : decode cX3_init 29 = .ok (.dup, 1) := by decide +kernel
theorem dX3_init_30 : decode cX3_init 30 = .ok (.invokespecial 17, 3) := by decide +kernel
theorem dX3_init_33 : decode cX3_init 33 = .ok (.aastore, 1) := by decide +kernel
theorem dX3_init_34 : decode cX3_init 34 = .ok (.iinc 1 1, 3) := by decide +kernel
theorem dX3_init_37 : decode cX3_init 37 = .ok (.goto (-22), 3) := by decide +kernel
theorem dX3_init_40 : decode cX3_init 40 = .ok (.return_, 1) := by decide +kernel
theorem dX5_init_0 : decode cX5_init 0 = .ok (.aload_n 0, 1) := by decide +kernel
theorem dX5_init_1 : decode cX5_init 1 = .ok (.invokespecial 3, 3) := by decide +kernel
theorem dX5_init_4 : decode cX5_init 4 = .ok (.aload_n 0, 1) := by decide +kernel
theorem dX5_init_5 : decode cX5_init 5 = .ok (.new 9, 3) := by decide +kernel
theorem dX5_init_8 : decode cX5_init 8 = .ok (.dup, 1) := by decide +kernel
theorem dX5_init_9 : decode cX5_init 9 = .ok (.invokespecial 11, 3) := by decide +kernel
theorem dX5_init_12 : decode cX5_init 12 = .ok (.putfield 12, 3) := by decide +kernel
theorem dX5_init_15 : decode cX5_init 15 = .ok (.aload_n 0, 1) := by decide +kernel
theorem dX5_init_16 : decode cX5_init 16 = .ok (.bipush 8, 2) := by decide +kernel
theorem dX5_init_18 : decode cX5_init 18 = .ok (.newarray .int, 2) := by decide +kernel
theorem dX5_init_20 : decode cX5_init 20 = .ok (.putfield 18, 3) := by decide +kernel
theorem dX5_init_23 : decode cX5_init 23 = .ok (.aload_n 0, 1) := by decide +kernel
theorem dX5_init_24 : decode cX5_init 24 = .ok (.bipush 14, 2) := by decide +kernel
theorem dX5_init_26 : decode cX5_init 26 = .ok (.newarray .int, 2) := by decide +kernel
theorem dX5_init_28 : decode cX5_init 28 = .ok (.putfield 22, 3) := by decide +kernel
theorem dX5_init_31 : decode cX5_init 31 = .ok (.return_, 1) := by decide +kernel
theorem dX8_init_0 : decode cX8_init 0 = .ok (.aload_n 0, 1) := by decide +kernel
theorem dX8_init_1 : decode cX8_init 1 = .ok (.invokespecial 3, 3) := by decide +kernel
theorem dX8_init_4 : decode cX8_init 4 = .ok (.aload_n 0, 1) := by decide +kernel
theorem dX8_init_5 : decode cX8_init 5 = .ok (.bipush 8, 2) := by decide +kernel
theorem dX8_init_7 : decode cX8_init 7 = .ok (.newarray .int, 2) := by decide +kernel
theorem dX8_init_9 : decode cX8_init 9 = .ok (.putfield 9, 3) := by decide +kernel
theorem dX8_init_12 : decode cX8_init 12 = .ok (.aload_n 0, 1) := by decide +kernel
theorem dX8_init_13 : decode cX8_init 13 = .ok (.iconst 4, 1) := by decide +kernel
theorem dX8_init_14 : decode cX8_init 14 = .ok (.anewarray 15, 3) := by decide +kernel
theorem dX8_init_17 : decode cX8_init 17 = .ok (.putfield 17, 3) := by decide +kernel
theorem dX8_init_20 : decode cX8_init 20 = .ok (.aload_n 0, 1) := by decide +kernel
theorem dX8_init_21 : decode cX8_init 21 = .ok (.sipush 600, 3) := by decide +kernel
theorem dX8_init_24 : decode cX8_init 24 = .ok (.newarray .byte, 2) := by decide +kernel
theorem dX8_init_26 : decode cX8_init 26 = .ok (.putfield 21, 3) := by decide +kernel
theorem dX8_init_29 : decode cX8_init 29 = .ok (.iconst 0, 1) := by decide +kernel
theorem dX8_init_30 : decode cX8_init 30 = .ok (.istore_n 1, 1) := by decide +kernel
theorem dX8_init_31 : decode cX8_init 31 = .ok (.iload_n 1, 1) := by decide +kernel
theorem dX8_init_32 : decode cX8_init 32 = .ok (.iconst 4, 1) := by decide +kernel
theorem dX8_init_33 : decode cX8_init 33 = .ok (.if_icmp .ge 22, 3) := by decide +kernel
theorem dX8_init_36 : decode cX8_init 36 = .ok (.aload_n 0, 1) := by decide +kernel
theorem dX8_init_37 : decode cX8_init 37 = .ok (.getfield 17, 3) := by decide +kernel
theorem dX8_init_40 : decode cX8_init 40 = .ok (.iload_n 1, 1) := by decide +kernel
theorem dX8_init_41 : decode cX8_init 41 = .ok (.new 15, 3) := by decide +kernel
theorem dX8_init_44 : decode cX8_init 44 = .ok (.dup, 1) := by decide +kernel
theorem dX8_init_45 : decode cX8_init 45 = .ok (.invokespecial 25, 3) := by decide +kernel
theorem dX8_init_48 : decode cX8_init 48 = .ok (.aastore, 1) := by decide +kernel
theorem dX8_init_49 : decode cX8_init 49 = .ok (.iinc 1 1, 3) := by decide +kernel
theorem dX8_init_52 : decode cX8_init 52 = .ok (.goto (-21), 3) := by decide +kernel
theorem dX8_init_55 : decode cX8_init 55 = .ok (.aload_n 0, 1) := by decide +kernel
theorem dX8_init_56 : decode cX8_init 56 = .ok (.invokevirtual 26, 3) := by decide +kernel
theorem dX8_init_59 : decode cX8_init 59 = .ok (.return_, 1) := by decide +kernel
end
section
theorem flX3_11 : FL RX3 11 2 0 (.array (.object "BillRegistry$Chain")) true := ⟨RX3, TX3, 1, tyX3, rfl, by decide, TB_t 369 (by decide +kernel) rfl, inX3, tyX3_ok, nmX3, rfl, rfl⟩
theorem flX5_12 : FL RX5 12 4 0 (.object "BillRegistry$Bill") true := ⟨RX5, TX5, 4, tyX5, rfl, by decide, TB_t 343 (by decide +kernel) rfl, inX5, tyX5_ok, nmX5, rfl, rfl⟩
theorem flX5_18 : FL RX5 18 4 1 (.array .int) true := ⟨RX5, TX5, 4, tyX5, rfl, by decide, TB_t 345 (by decide +kernel) rfl, inX5, tyX5_ok, nmX5, rfl, rfl⟩
theorem flX5_22 : FL RX5 22 4 2 (.array .int) true := ⟨RX5, TX5, 4, tyX5, rfl, by decide, TB_t 347 (by decide +kernel) rfl, inX5, tyX5_ok, nmX5, rfl, rfl⟩
theorem mlX3_17 : MLIN RX3 17 yX2_init cX2_init 1 0 := ⟨by decide, TB_t 47 (by decide +kernel) rfl, TB_t 4 (by decide +kernel) rfl, ⟨by decide, by decide, by decide +kernel⟩, TB_t 46 (by decide +kernel) rfl, rfl⟩
theorem mlX5_11 : MLI RX5 11 yX1_init cX1_init 2 0 := ⟨TB_t 342 (by decide +kernel) rfl, TB_t 39 (by decide +kernel) rfl, TB_t 3 (by decide +kernel) rfl, ⟨by decide, by decide, by decide +kernel⟩, TB_t 38 (by decide +kernel) rfl, rfl⟩
theorem mlX8_25 : MLI RX8 25 yX1_init cX1_init 2 0 := ⟨TB_t 37 (by decide +kernel) rfl, TB_t 39 (by decide +kernel) rfl, TB_t 3 (by decide +kernel) rfl, ⟨by decide, by decide, by decide +kernel⟩, TB_t 38 (by decide +kernel) rfl, rfl⟩
theorem mlX8_26 : MLV RX8 26 yX8_begin cX8_begin 2 none 0 := ⟨TB_t 242 (by decide +kernel) rfl, TB_t 245 (by decide +kernel) rfl, TB_t 2 (by decide +kernel) rfl, ⟨by decide, by decide, by decide +kernel⟩, TB_t 243 (by decide +kernel) rfl, TB_t 244 (by decide +kernel) rfl⟩
theorem nlX3_9 : NL RX3 9 1 8 [.int 0, .int 0, .int 0, .int 0, .int 0, .int 0, .int 0, .null] := ⟨RX2, TX2, tyX2, rfl, TB_t 366 (by decide +kernel) rfl, TB_t 44 (by decide +kernel) rfl, TB_t 4 (by decide +kernel) rfl, inX2, tyX2_ok, by decide⟩
theorem nlX5_9 : NL RX5 9 0 19 [.int 0, .int 0, .int 0, .int 0, .int 0, .int 0, .int 0, .int 0, .int 0, .int 0, .int 0, .int 0, .null, .null, .null, .null, .null, .null, .null] := ⟨RX1, TX1, tyX1, rfl, TB_t 341 (by decide +kernel) rfl, TB_t 36 (by decide +kernel) rfl, TB_t 3 (by decide +kernel) rfl, inX1, tyX1_ok, by decide⟩
theorem nlX8_15 : NL RX8 15 0 19 [.int 0, .int 0, .int 0, .int 0, .int 0, .int 0, .int 0, .int 0, .int 0, .int 0, .int 0, .int 0, .null, .null, .null, .null, .null, .null, .null] := ⟨RX1, TX1, tyX1, rfl, TB_t 34 (by decide +kernel) rfl, TB_t 36 (by decide +kernel) rfl, TB_t 3 (by decide +kernel) rfl, inX1, tyX1_ok, by decide⟩
theorem w_ac1 : Cond.arrayClass .byte ∈ TB := TB_t 86 (by decide +kernel) rfl
theorem wcX3_9 : Cond.classLink RX3 9 RX2 ∈ TB := TB_t 366 (by decide +kernel) rfl
theorem wcX8_15 : Cond.classLink RX8 15 RX1 ∈ TB := TB_t 34 (by decide +kernel) rfl
theorem wlX3_3 : Cond.methodLink RX3 3 objectInit ∈ TB := TB_t 365 (by decide +kernel) rfl
theorem wlX5_3 : Cond.methodLink RX5 3 objectInit ∈ TB := TB_t 340 (by decide +kernel) rfl
theorem wlX8_3 : Cond.methodLink RX8 3 objectInit ∈ TB := TB_t 33 (by decide +kernel) rfl
end
section
set_option maxHeartbeats 4000000 in
set_option maxRecDepth 100000 in
theorem c_X8_init {l : Launch} {D : va_G} {kA : Nat → ClassId} {M : mM} {T : mT} {sz h : Nat} (hc_h : M h = some (.inr (6, [.int 0, .int 0, .int 0, .int 0, .int 0, .int 0, .int 0, .int 0, .null, .null, .null]))) (hlt : h < sz) : mCv l yX8_init cX8_init 2 3 91 1616 D kA M T sz [.ref h] (fun u => ∃ cs bs tp, u.1 h = some (.inr (6, [.int 0, .int 2, .int 0, .int 0, .int 0, .int 0, .int 0, .int (-1), .ref cs, .ref bs, .ref tp])) ∧ u.1 cs = some (.inl (kA 0, 8, .inl (c100 (fun _ => 0)))) ∧ u.2 bs = some 6 ∧ u.2 tp = some 7 ∧ sz ≤ cs ∧ sz ≤ bs ∧ sz ≤ tp ∧ (∀ a t, T a = some t → u.2 a = some t) ∧ ∀ a, a ≠ h → a < sz → u.1 a = M a) := by
  unfold mCv
  refine start_W (by decide) (Nat.le_of_ble_eq_true rfl) ?_
  intro p e s m below meth c ls hC hr hlk hnm hK hH hsz hl
  have hx := hC.1
  have hb := hC.2.1
  have hl : lv_has ls 2 [(0, .ref h)] := hl
  have hF : ∀ a, a ≠ h → a < sz → M a = M a := fun a _ _ => rfl
  have hTT : ∀ a t, T a = some t → T a = some t := fun _ _ h => h
  refine lv_aload_n hx hb dX8_init_0 rfl (lv_at hl 0 rfl) ?_
  refine W.objInit hx hb hC.2.2.2.1 (hC.2.2.2.2 _ wlX8_3) (hC.2.2.2.2 _ w_oi) (hC.2.2.2.2 _ w_oc) rfl (by rw [hC.2.2.1]; exact hl.1) rfl dX8_init_1 (Nat.le_of_ble_eq_true rfl) (Nat.le_of_ble_eq_true rfl) ?_
  refine W.eq (g2 := F0 m 4 ls []) rfl ?_
  refine lv_aload_n hx hb dX8_init_4 rfl (lv_at hl 0 rfl) ?_
  refine lv_bipush (v := 8) hx hb dX8_init_5 (by decide) ?_
  refine ynewa (atype := .int) (ck := 0) (N := 8) (a0 := (8, .inl (fun _ => 0))) hC hK hH rfl w_ac0 rfl (fun _ h => by cases h) (fun _ => rfl) (by decide) (by decide) (by decide) (Nat.le_of_ble_eq_true rfl) (Nat.le_of_ble_eq_true rfl) dX8_init_7 (fun q1 H M2 e_q1 hz nM_q1 nT_q1 hc_q1 hfr hN => ?_)
  have g_q1 : sz ≤ q1 := by rw [← hsz, e_q1]; exact hH.2.1.1
  have n_h_q1 : h ≠ q1 := neN hc_h nM_q1
  have n_q1_h : q1 ≠ h := Ne.symm n_h_q1
  have hH := hN
  have hc_q1 : M2 q1 = some (.inl (kA 0, 8, .inl (fun _ => 0))) := hc_q1
  have hc_h : M2 h = some (.inr (6, [.int 0, .int 0, .int 0, .int 0, .int 0, .int 0, .int 0, .int 0, .null, .null, .null])) := (hfr h n_h_q1).trans hc_h
  have hF : ∀ a, a ≠ h → a < sz → M2 a = M a := fun a h0 h1 => (hfr a (Nat.ne_of_lt (Nat.lt_of_lt_of_le h1 g_q1))).trans (hF a h0 h1)
  refine ypF (v := .ref q1) hC hK hH hnm (fun _ _ _ h => by cases h; rfl) flX8_9 hc_h rfl rfl (Nat.le_of_ble_eq_true rfl) dX8_init_9 (fun H locs M3 hc_h hfr hH => ?_)
  have hc_h : M3 h = some (.inr (6, [.int 0, .int 0, .int 0, .int 0, .int 0, .int 0, .int 0, .int 0, .ref q1, .null, .null])) := hc_h
  have hc_q1 : M3 q1 = some (.inl (kA 0, 8, .inl (fun _ => 0))) := (hfr q1 n_q1_h).trans hc_q1
  have hF : ∀ a, a ≠ h → a < sz → M3 a = M a := fun a h0 h1 => (hfr a h0).trans (hF a h0 h1)
  refine lv_aload_n hx hb dX8_init_12 rfl (lv_at hl 0 rfl) ?_
  refine lv_iconst (v := 4) hx hb dX8_init_13 (by decide) ?_
  refine ynewq (ck := 5) (N := 4) hC hK hH wcX8_15 (by decide) rfl (by decide) (by decide) (by decide) (Nat.le_of_ble_eq_true rfl) (Nat.le_of_ble_eq_true rfl) dX8_init_14 (fun q4 H M5 e_q4 hz nM_q4 nT_q4 hc_q4 hfr hN => ?_)
  have g_q4 : sz ≤ q4 := by rw [← hsz, e_q4]; exact hH.2.1.1
  have n_h_q4 : h ≠ q4 := neN hc_h nM_q4
  have n_q4_h : q4 ≠ h := Ne.symm n_h_q4
  have n_q1_q4 : q1 ≠ q4 := neN hc_q1 nM_q4
  have n_q4_q1 : q4 ≠ q1 := Ne.symm n_q1_q4
  have hH := hN
  have hc_q4 : M5 q4 = some (.inl (kA 5, 4, .inr (.inr (.inr (.inr (fun _ => none)))))) := hc_q4
  have hc_h : M5 h = some (.inr (6, [.int 0, .int 0, .int 0, .int 0, .int 0, .int 0, .int 0, .int 0, .ref q1, .null, .null])) := (hfr h n_h_q4).trans hc_h
  have hc_q1 : M5 q1 = some (.inl (kA 0, 8, .inl (fun _ => 0))) := (hfr q1 n_q1_q4).trans hc_q1
  have hF : ∀ a, a ≠ h → a < sz → M5 a = M a := fun a h0 h1 => (hfr a (Nat.ne_of_lt (Nat.lt_of_lt_of_le h1 g_q4))).trans (hF a h0 h1)
  refine ypF (v := .ref q4) hC hK hH hnm (fun _ _ _ h => by cases h; rfl) flX8_17 hc_h rfl rfl (Nat.le_of_ble_eq_true rfl) dX8_init_17 (fun H locs M6 hc_h hfr hH => ?_)
  have hc_h : M6 h = some (.inr (6, [.int 0, .int 0, .int 0, .int 0, .int 0, .int 0, .int 0, .int 0, .ref q1, .ref q4, .null])) := hc_h
  have hc_q1 : M6 q1 = some (.inl (kA 0, 8, .inl (fun _ => 0))) := (hfr q1 n_q1_h).trans hc_q1
  have hc_q4 : M6 q4 = some (.inl (kA 5, 4, .inr (.inr (.inr (.inr (fun _ => none)))))) := (hfr q4 n_q4_h).trans hc_q4
  have hF : ∀ a, a ≠ h → a < sz → M6 a = M a := fun a h0 h1 => (hfr a h0).trans (hF a h0 h1)
  refine lv_aload_n hx hb dX8_init_20 rfl (lv_at hl 0 rfl) ?_
  refine lv_sipush (v := 600) hx hb dX8_init_21 (by decide) ?_
  refine ynewa (atype := .byte) (ck := 1) (N := 600) (a0 := (600, .inl (fun _ => 0))) hC hK hH rfl w_ac1 rfl (fun _ h => by cases h) (fun _ => rfl) (by decide) (by decide) (by decide) (Nat.le_of_ble_eq_true rfl) (Nat.le_of_ble_eq_true rfl) dX8_init_24 (fun q7 H M8 e_q7 hz nM_q7 nT_q7 hc_q7 hfr hN => ?_)
  have g_q7 : sz ≤ q7 := by rw [← hsz, e_q7]; exact hH.2.1.1
  have n_h_q7 : h ≠ q7 := neN hc_h nM_q7
  have n_q7_h : q7 ≠ h := Ne.symm n_h_q7
  have n_q1_q7 : q1 ≠ q7 := neN hc_q1 nM_q7
  have n_q7_q1 : q7 ≠ q1 := Ne.symm n_q1_q7
  have n_q4_q7 : q4 ≠ q7 := neN hc_q4 nM_q7
  have n_q7_q4 : q7 ≠ q4 := Ne.symm n_q4_q7
  have hH := hN
  have hc_q7 : M8 q7 = some (.inl (kA 1, 600, .inl (fun _ => 0))) := hc_q7
  have hc_h : M8 h = some (.inr (6, [.int 0, .int 0, .int 0, .int 0, .int 0, .int 0, .int 0, .int 0, .ref q1, .ref q4, .null])) := (hfr h n_h_q7).trans hc_h
  have hc_q1 : M8 q1 = some (.inl (kA 0, 8, .inl (fun _ => 0))) := (hfr q1 n_q1_q7).trans hc_q1
  have hc_q4 : M8 q4 = some (.inl (kA 5, 4, .inr (.inr (.inr (.inr (fun _ => none)))))) := (hfr q4 n_q4_q7).trans hc_q4
  have hF : ∀ a, a ≠ h → a < sz → M8 a = M a := fun a h0 h1 => (hfr a (Nat.ne_of_lt (Nat.lt_of_lt_of_le h1 g_q7))).trans (hF a h0 h1)
  refine ypF (v := .ref q7) hC hK hH hnm (fun _ _ _ h => by cases h; rfl) flX8_21 hc_h rfl rfl (Nat.le_of_ble_eq_true rfl) dX8_init_26 (fun H locs M9 hc_h hfr hH => ?_)
  have hc_h : M9 h = some (.inr (6, [.int 0, .int 0, .int 0, .int 0, .int 0, .int 0, .int 0, .int 0, .ref q1, .ref q4, .ref q7])) := hc_h
  have hc_q1 : M9 q1 = some (.inl (kA 0, 8, .inl (fun _ => 0))) := (hfr q1 n_q1_h).trans hc_q1
  have hc_q4 : M9 q4 = some (.inl (kA 5, 4, .inr (.inr (.inr (.inr (fun _ => none)))))) := (hfr q4 n_q4_h).trans hc_q4
  have hc_q7 : M9 q7 = some (.inl (kA 1, 600, .inl (fun _ => 0))) := (hfr q7 n_q7_h).trans hc_q7
  have hF : ∀ a, a ≠ h → a < sz → M9 a = M a := fun a h0 h1 => (hfr a h0).trans (hF a h0 h1)
  refine lv_iconst (v := 0) hx hb dX8_init_29 (by decide) ?_
  refine lv_istore_n (lv' := [(1, .int 0), (0, .ref h)]) hx hb dX8_init_30 rfl hl (by decide) rfl (fun ls hl => ?_)
  refine lv_iload_n hx hb dX8_init_31 rfl (lv_at hl 0 rfl) ?_
  refine lv_iconst (v := 4) hx hb dX8_init_32 (by decide) ?_
  refine jic_ge (tgt := 55) hx hb dX8_init_33 (by decide) (fun c10 => absurd c10 (by decide)) (fun c10 => ?_)
  refine lv_aload_n hx hb dX8_init_36 rfl (lv_at hl 1 rfl) ?_
  refine xg hC hK hH flX8_17 hc_h rfl dX8_init_37 ?_
  refine lv_iload_n hx hb dX8_init_40 rfl (lv_at hl 0 rfl) ?_
  refine ynew hC hK hH nlX8_15 (Nat.le_of_ble_eq_true rfl) (Nat.le_of_ble_eq_true rfl) dX8_init_41 (fun q11 H M12 e_q11 hz nM_q11 nT_q11 hc_q11 hfr hN => ?_)
  have g_q11 : sz ≤ q11 := by rw [← hsz, e_q11]; exact hH.2.1.1
  have n_h_q11 : h ≠ q11 := neN hc_h nM_q11
  have n_q11_h : q11 ≠ h := Ne.symm n_h_q11
  have n_q1_q11 : q1 ≠ q11 := neN hc_q1 nM_q11
  have n_q11_q1 : q11 ≠ q1 := Ne.symm n_q1_q11
  have n_q4_q11 : q4 ≠ q11 := neN hc_q4 nM_q11
  have n_q11_q4 : q11 ≠ q4 := Ne.symm n_q4_q11
  have n_q7_q11 : q7 ≠ q11 := neN hc_q7 nM_q11
  have n_q11_q7 : q11 ≠ q7 := Ne.symm n_q7_q11
  have hH := hN
  have hc_q11 : M12 q11 = some (.inr (0, [.int 0, .int 0, .int 0, .int 0, .int 0, .int 0, .int 0, .int 0, .int 0, .int 0, .int 0, .int 0, .null, .null, .null, .null, .null, .null, .null])) := hc_q11
  have hc_h : M12 h = some (.inr (6, [.int 0, .int 0, .int 0, .int 0, .int 0, .int 0, .int 0, .int 0, .ref q1, .ref q4, .ref q7])) := (hfr h n_h_q11).trans hc_h
  have hc_q1 : M12 q1 = some (.inl (kA 0, 8, .inl (fun _ => 0))) := (hfr q1 n_q1_q11).trans hc_q1
  have hc_q4 : M12 q4 = some (.inl (kA 5, 4, .inr (.inr (.inr (.inr (fun _ => none)))))) := (hfr q4 n_q4_q11).trans hc_q4
  have hc_q7 : M12 q7 = some (.inl (kA 1, 600, .inl (fun _ => 0))) := (hfr q7 n_q7_q11).trans hc_q7
  have hF : ∀ a, a ≠ h → a < sz → M12 a = M a := fun a h0 h1 => (hfr a (Nat.ne_of_lt (Nat.lt_of_lt_of_le h1 g_q11))).trans (hF a h0 h1)
  refine lv_dup hx hb dX8_init_44 rfl ?_
  have lt_q11 : q11 < Array.size H := hH.1.ltM (by rw [hc_q11]; simp)
  have gH : sz ≤ Array.size H := by rw [← hsz]; exact hH.2.1.1
  have lt_h : h < Array.size H := hH.1.ltM (by rw [hc_h]; simp)
  have lt_q1 : q1 < Array.size H := hH.1.ltM (by rw [hc_q1]; simp)
  have lt_q4 : q4 < Array.size H := hH.1.ltM (by rw [hc_q4]; simp)
  have lt_q7 : q7 < Array.size H := hH.1.ltM (by rw [hc_q7]; simp)
  have lt_q11 : q11 < Array.size H := hH.1.ltM (by rw [hc_q11]; simp)
  refine goV hK hH (runI (As := []) (rest := [.ref q11, .int 0, .ref q4]) hC hK hH (c_X1_init hc_q11 lt_q11) mlX8_25 ⟨⟨Nat.le_of_ble_eq_true rfl, Nat.le_of_ble_eq_true rfl⟩, Nat.le_of_ble_eq_true rfl, Nat.le_of_ble_eq_true rfl⟩ rfl hl.1 rfl (Nat.le_of_ble_eq_true rfl) dX8_init_45) (fun M13 T14 H locs hP hz hH => ?_)
  try dsimp only at hP
  obtain ⟨nM_q11, t_q11, hsub, hfr⟩ := hP
  have hc_h : M13 h = some (.inr (6, [.int 0, .int 0, .int 0, .int 0, .int 0, .int 0, .int 0, .int 0, .ref q1, .ref q4, .ref q7])) := (hfr h n_h_q11 lt_h).trans hc_h
  have hc_q1 : M13 q1 = some (.inl (kA 0, 8, .inl (fun _ => 0))) := (hfr q1 n_q1_q11 lt_q1).trans hc_q1
  have hc_q4 : M13 q4 = some (.inl (kA 5, 4, .inr (.inr (.inr (.inr (fun _ => none)))))) := (hfr q4 n_q4_q11 lt_q4).trans hc_q4
  have hc_q7 : M13 q7 = some (.inl (kA 1, 600, .inl (fun _ => 0))) := (hfr q7 n_q7_q11 lt_q7).trans hc_q7
  have hTT : ∀ a t, T a = some t → T14 a = some t := fun a t h => hsub _ _ (hTT a t h)
  have hF : ∀ a, a ≠ h → a < sz → M13 a = M a := fun a h0 h1 => (hfr a (Nat.ne_of_lt (Nat.lt_of_lt_of_le h1 g_q11)) (Nat.lt_of_lt_of_le h1 gH)).trans (hF a h0 h1)
  refine yqst (ck := 5) (cv := 0) (v := q11) hC hK hH rfl rfl hc_q4 (let ⟨fs, h1, _⟩ := tcell hH t_q11 rfl; ⟨fs, h1⟩) (iIn (by decide) (by decide)) dX8_init_48 (fun H locs M15 hc_q4 hfr hH => ?_)
  have hc_q4 : M15 q4 = some (.inl (kA 5, 4, .inr (.inr (.inr (.inr (va_up (fun _ => none) (Int32.toNatClampNeg 0) (some q11))))))) := hc_q4
  have hc_h : M15 h = some (.inr (6, [.int 0, .int 0, .int 0, .int 0, .int 0, .int 0, .int 0, .int 0, .ref q1, .ref q4, .ref q7])) := (hfr h n_h_q4).trans hc_h
  have hc_q1 : M15 q1 = some (.inl (kA 0, 8, .inl (fun _ => 0))) := (hfr q1 n_q1_q4).trans hc_q1
  have hc_q7 : M15 q7 = some (.inl (kA 1, 600, .inl (fun _ => 0))) := (hfr q7 n_q7_q4).trans hc_q7
  have hF : ∀ a, a ≠ h → a < sz → M15 a = M a := fun a h0 h1 => (hfr a (Nat.ne_of_lt (Nat.lt_of_lt_of_le h1 g_q4))).trans (hF a h0 h1)
  refine lv_iinc (v := 1) (lv' := [(1, .int 1), (0, .ref h)]) hx hb dX8_init_49 hl (k := 0) rfl (by decide) (by decide) rfl (fun ls hl => ?_)
  refine lv_goto (tgt := 31) hx hb dX8_init_52 (by decide) ?_
  refine lv_iload_n hx hb dX8_init_31 rfl (lv_at hl 0 rfl) ?_
  refine lv_iconst (v := 4) hx hb dX8_init_32 (by decide) ?_
  refine jic_ge (tgt := 55) hx hb dX8_init_33 (by decide) (fun c16 => absurd c16 (by decide)) (fun c16 => ?_)
  refine lv_aload_n hx hb dX8_init_36 rfl (lv_at hl 1 rfl) ?_
  refine xg hC hK hH flX8_17 hc_h rfl dX8_init_37 ?_
  refine lv_iload_n hx hb dX8_init_40 rfl (lv_at hl 0 rfl) ?_
  refine ynew hC hK hH nlX8_15 (Nat.le_of_ble_eq_true rfl) (Nat.le_of_ble_eq_true rfl) dX8_init_41 (fun q17 H M18 e_q17 hz nM_q17 nT_q17 hc_q17 hfr hN => ?_)
  have g_q17 : sz ≤ q17 := by rw [← hsz, e_q17]; exact hH.2.1.1
  have n_h_q17 : h ≠ q17 := neN hc_h nM_q17
  have n_q17_h : q17 ≠ h := Ne.symm n_h_q17
  have n_q1_q17 : q1 ≠ q17 := neN hc_q1 nM_q17
  have n_q17_q1 : q17 ≠ q1 := Ne.symm n_q1_q17
  have n_q4_q17 : q4 ≠ q17 := neN hc_q4 nM_q17
  have n_q17_q4 : q17 ≠ q4 := Ne.symm n_q4_q17
  have n_q7_q17 : q7 ≠ q17 := neN hc_q7 nM_q17
  have n_q17_q7 : q17 ≠ q7 := Ne.symm n_q7_q17
  have hH := hN
  have hc_q17 : M18 q17 = some (.inr (0, [.int 0, .int 0, .int 0, .int 0, .int 0, .int 0, .int 0, .int 0, .int 0, .int 0, .int 0, .int 0, .null, .null, .null, .null, .null, .null, .null])) := hc_q17
  have hc_h : M18 h = some (.inr (6, [.int 0, .int 0, .int 0, .int 0, .int 0, .int 0, .int 0, .int 0, .ref q1, .ref q4, .ref q7])) := (hfr h n_h_q17).trans hc_h
  have hc_q1 : M18 q1 = some (.inl (kA 0, 8, .inl (fun _ => 0))) := (hfr q1 n_q1_q17).trans hc_q1
  have hc_q4 : M18 q4 = some (.inl (kA 5, 4, .inr (.inr (.inr (.inr (va_up (fun _ => none) (Int32.toNatClampNeg 0) (some q11))))))) := (hfr q4 n_q4_q17).trans hc_q4
  have hc_q7 : M18 q7 = some (.inl (kA 1, 600, .inl (fun _ => 0))) := (hfr q7 n_q7_q17).trans hc_q7
  have hF : ∀ a, a ≠ h → a < sz → M18 a = M a := fun a h0 h1 => (hfr a (Nat.ne_of_lt (Nat.lt_of_lt_of_le h1 g_q17))).trans (hF a h0 h1)
  refine lv_dup hx hb dX8_init_44 rfl ?_
  have lt_q17 : q17 < Array.size H := hH.1.ltM (by rw [hc_q17]; simp)
  have gH : sz ≤ Array.size H := by rw [← hsz]; exact hH.2.1.1
  have lt_h : h < Array.size H := hH.1.ltM (by rw [hc_h]; simp)
  have lt_q1 : q1 < Array.size H := hH.1.ltM (by rw [hc_q1]; simp)
  have lt_q4 : q4 < Array.size H := hH.1.ltM (by rw [hc_q4]; simp)
  have lt_q7 : q7 < Array.size H := hH.1.ltM (by rw [hc_q7]; simp)
  have lt_q17 : q17 < Array.size H := hH.1.ltM (by rw [hc_q17]; simp)
  refine goV hK hH (runI (As := []) (rest := [.ref q17, .int 1, .ref q4]) hC hK hH (c_X1_init hc_q17 lt_q17) mlX8_25 ⟨⟨Nat.le_of_ble_eq_true rfl, Nat.le_of_ble_eq_true rfl⟩, Nat.le_of_ble_eq_true rfl, Nat.le_of_ble_eq_true rfl⟩ rfl hl.1 rfl (Nat.le_of_ble_eq_true rfl) dX8_init_45) (fun M19 T20 H locs hP hz hH => ?_)
  try dsimp only at hP
  obtain ⟨nM_q17, t_q17, hsub, hfr⟩ := hP
  have hc_h : M19 h = some (.inr (6, [.int 0, .int 0, .int 0, .int 0, .int 0, .int 0, .int 0, .int 0, .ref q1, .ref q4, .ref q7])) := (hfr h n_h_q17 lt_h).trans hc_h
  have hc_q1 : M19 q1 = some (.inl (kA 0, 8, .inl (fun _ => 0))) := (hfr q1 n_q1_q17 lt_q1).trans hc_q1
  have hc_q4 : M19 q4 = some (.inl (kA 5, 4, .inr (.inr (.inr (.inr (va_up (fun _ => none) (Int32.toNatClampNeg 0) (some q11))))))) := (hfr q4 n_q4_q17 lt_q4).trans hc_q4
  have hc_q7 : M19 q7 = some (.inl (kA 1, 600, .inl (fun _ => 0))) := (hfr q7 n_q7_q17 lt_q7).trans hc_q7
  have t_q11 : T20 q11 = some 2 := hsub _ _ t_q11
  have hTT : ∀ a t, T a = some t → T20 a = some t := fun a t h => hsub _ _ (hTT a t h)
  have hF : ∀ a, a ≠ h → a < sz → M19 a = M a := fun a h0 h1 => (hfr a (Nat.ne_of_lt (Nat.lt_of_lt_of_le h1 g_q17)) (Nat.lt_of_lt_of_le h1 gH)).trans (hF a h0 h1)
  refine yqst (ck := 5) (cv := 0) (v := q17) hC hK hH rfl rfl hc_q4 (let ⟨fs, h1, _⟩ := tcell hH t_q17 rfl; ⟨fs, h1⟩) (iIn (by decide) (by decide)) dX8_init_48 (fun H locs M21 hc_q4 hfr hH => ?_)
  have hc_q4 : M21 q4 = some (.inl (kA 5, 4, .inr (.inr (.inr (.inr (va_up (va_up (fun _ => none) (Int32.toNatClampNeg 0) (some q11)) (Int32.toNatClampNeg 1) (some q17))))))) := hc_q4
  have hc_h : M21 h = some (.inr (6, [.int 0, .int 0, .int 0, .int 0, .int 0, .int 0, .int 0, .int 0, .ref q1, .ref q4, .ref q7])) := (hfr h n_h_q4).trans hc_h
  have hc_q1 : M21 q1 = some (.inl (kA 0, 8, .inl (fun _ => 0))) := (hfr q1 n_q1_q4).trans hc_q1
  have hc_q7 : M21 q7 = some (.inl (kA 1, 600, .inl (fun _ => 0))) := (hfr q7 n_q7_q4).trans hc_q7
  have hF : ∀ a, a ≠ h → a < sz → M21 a = M a := fun a h0 h1 => (hfr a (Nat.ne_of_lt (Nat.lt_of_lt_of_le h1 g_q4))).trans (hF a h0 h1)
  refine lv_iinc (v := 2) (lv' := [(1, .int 2), (0, .ref h)]) hx hb dX8_init_49 hl (k := 0) rfl (by decide) (by decide) rfl (fun ls hl => ?_)
  refine lv_goto (tgt := 31) hx hb dX8_init_52 (by decide) ?_
  refine lv_iload_n hx hb dX8_init_31 rfl (lv_at hl 0 rfl) ?_
  refine lv_iconst (v := 4) hx hb dX8_init_32 (by decide) ?_
  refine jic_ge (tgt := 55) hx hb dX8_init_33 (by decide) (fun c22 => absurd c22 (by decide)) (fun c22 => ?_)
  refine lv_aload_n hx hb dX8_init_36 rfl (lv_at hl 1 rfl) ?_
  refine xg hC hK hH flX8_17 hc_h rfl dX8_init_37 ?_
  refine lv_iload_n hx hb dX8_init_40 rfl (lv_at hl 0 rfl) ?_
  refine ynew hC hK hH nlX8_15 (Nat.le_of_ble_eq_true rfl) (Nat.le_of_ble_eq_true rfl) dX8_init_41 (fun q23 H M24 e_q23 hz nM_q23 nT_q23 hc_q23 hfr hN => ?_)
  have g_q23 : sz ≤ q23 := by rw [← hsz, e_q23]; exact hH.2.1.1
  have n_h_q23 : h ≠ q23 := neN hc_h nM_q23
  have n_q23_h : q23 ≠ h := Ne.symm n_h_q23
  have n_q1_q23 : q1 ≠ q23 := neN hc_q1 nM_q23
  have n_q23_q1 : q23 ≠ q1 := Ne.symm n_q1_q23
  have n_q4_q23 : q4 ≠ q23 := neN hc_q4 nM_q23
  have n_q23_q4 : q23 ≠ q4 := Ne.symm n_q4_q23
  have n_q7_q23 : q7 ≠ q23 := neN hc_q7 nM_q23
  have n_q23_q7 : q23 ≠ q7 := Ne.symm n_q7_q23
  have hH := hN
  have hc_q23 : M24 q23 = some (.inr (0, [.int 0, .int 0, .int 0, .int 0, .int 0, .int 0, .int 0, .int 0, .int 0, .int 0, .int 0, .int 0, .null, .null, .null, .null, .null, .null, .null])) := hc_q23
  have hc_h : M24 h = some (.inr (6, [.int 0, .int 0, .int 0, .int 0, .int 0, .int 0, .int 0, .int 0, .ref q1, .ref q4, .ref q7])) := (hfr h n_h_q23).trans hc_h
  have hc_q1 : M24 q1 = some (.inl (kA 0, 8, .inl (fun _ => 0))) := (hfr q1 n_q1_q23).trans hc_q1
  have hc_q4 : M24 q4 = some (.inl (kA 5, 4, .inr (.inr (.inr (.inr (va_up (va_up (fun _ => none) (Int32.toNatClampNeg 0) (some q11)) (Int32.toNatClampNeg 1) (some q17))))))) := (hfr q4 n_q4_q23).trans hc_q4
  have hc_q7 : M24 q7 = some (.inl (kA 1, 600, .inl (fun _ => 0))) := (hfr q7 n_q7_q23).trans hc_q7
  have hF : ∀ a, a ≠ h → a < sz → M24 a = M a := fun a h0 h1 => (hfr a (Nat.ne_of_lt (Nat.lt_of_lt_of_le h1 g_q23))).trans (hF a h0 h1)
  refine lv_dup hx hb dX8_init_44 rfl ?_
  have lt_q23 : q23 < Array.size H := hH.1.ltM (by rw [hc_q23]; simp)
  have gH : sz ≤ Array.size H := by rw [← hsz]; exact hH.2.1.1
  have lt_h : h < Array.size H := hH.1.ltM (by rw [hc_h]; simp)
  have lt_q1 : q1 < Array.size H := hH.1.ltM (by rw [hc_q1]; simp)
  have lt_q4 : q4 < Array.size H := hH.1.ltM (by rw [hc_q4]; simp)
  have lt_q7 : q7 < Array.size H := hH.1.ltM (by rw [hc_q7]; simp)
  have lt_q23 : q23 < Array.size H := hH.1.ltM (by rw [hc_q23]; simp)
  refine goV hK hH (runI (As := []) (rest := [.ref q23, .int 2, .ref q4]) hC hK hH (c_X1_init hc_q23 lt_q23) mlX8_25 ⟨⟨Nat.le_of_ble_eq_true rfl, Nat.le_of_ble_eq_true rfl⟩, Nat.le_of_ble_eq_true rfl, Nat.le_of_ble_eq_true rfl⟩ rfl hl.1 rfl (Nat.le_of_ble_eq_true rfl) dX8_init_45) (fun M25 T26 H locs hP hz hH => ?_)
  try dsimp only at hP
  obtain ⟨nM_q23, t_q23, hsub, hfr⟩ := hP
  have hc_h : M25 h = some (.inr (6, [.int 0, .int 0, .int 0, .int 0, .int 0, .int 0, .int 0, .int 0, .ref q1, .ref q4, .ref q7])) := (hfr h n_h_q23 lt_h).trans hc_h
  have hc_q1 : M25 q1 = some (.inl (kA 0, 8, .inl (fun _ => 0))) := (hfr q1 n_q1_q23 lt_q1).trans hc_q1
  have hc_q4 : M25 q4 = some (.inl (kA 5, 4, .inr (.inr (.inr (.inr (va_up (va_up (fun _ => none) (Int32.toNatClampNeg 0) (some q11)) (Int32.toNatClampNeg 1) (some q17))))))) := (hfr q4 n_q4_q23 lt_q4).trans hc_q4
  have hc_q7 : M25 q7 = some (.inl (kA 1, 600, .inl (fun _ => 0))) := (hfr q7 n_q7_q23 lt_q7).trans hc_q7
  have t_q11 : T26 q11 = some 2 := hsub _ _ t_q11
  have t_q17 : T26 q17 = some 2 := hsub _ _ t_q17
  have hTT : ∀ a t, T a = some t → T26 a = some t := fun a t h => hsub _ _ (hTT a t h)
  have hF : ∀ a, a ≠ h → a < sz → M25 a = M a := fun a h0 h1 => (hfr a (Nat.ne_of_lt (Nat.lt_of_lt_of_le h1 g_q23)) (Nat.lt_of_lt_of_le h1 gH)).trans (hF a h0 h1)
  refine yqst (ck := 5) (cv := 0) (v := q23) hC hK hH rfl rfl hc_q4 (let ⟨fs, h1, _⟩ := tcell hH t_q23 rfl; ⟨fs, h1⟩) (iIn (by decide) (by decide)) dX8_init_48 (fun H locs M27 hc_q4 hfr hH => ?_)
  have hc_q4 : M27 q4 = some (.inl (kA 5, 4, .inr (.inr (.inr (.inr (va_up (va_up (va_up (fun _ => none) (Int32.toNatClampNeg 0) (some q11)) (Int32.toNatClampNeg 1) (some q17)) (Int32.toNatClampNeg 2) (some q23))))))) := hc_q4
  have hc_h : M27 h = some (.inr (6, [.int 0, .int 0, .int 0, .int 0, .int 0, .int 0, .int 0, .int 0, .ref q1, .ref q4, .ref q7])) := (hfr h n_h_q4).trans hc_h
  have hc_q1 : M27 q1 = some (.inl (kA 0, 8, .inl (fun _ => 0))) := (hfr q1 n_q1_q4).trans hc_q1
  have hc_q7 : M27 q7 = some (.inl (kA 1, 600, .inl (fun _ => 0))) := (hfr q7 n_q7_q4).trans hc_q7
  have hF : ∀ a, a ≠ h → a < sz → M27 a = M a := fun a h0 h1 => (hfr a (Nat.ne_of_lt (Nat.lt_of_lt_of_le h1 g_q4))).trans (hF a h0 h1)
  refine lv_iinc (v := 3) (lv' := [(1, .int 3), (0, .ref h)]) hx hb dX8_init_49 hl (k := 0) rfl (by decide) (by decide) rfl (fun ls hl => ?_)
  refine lv_goto (tgt := 31) hx hb dX8_init_52 (by decide) ?_
  refine lv_iload_n hx hb dX8_init_31 rfl (lv_at hl 0 rfl) ?_
  refine lv_iconst (v := 4) hx hb dX8_init_32 (by decide) ?_
  refine jic_ge (tgt := 55) hx hb dX8_init_33 (by decide) (fun c28 => absurd c28 (by decide)) (fun c28 => ?_)
  refine lv_aload_n hx hb dX8_init_36 rfl (lv_at hl 1 rfl) ?_
  refine xg hC hK hH flX8_17 hc_h rfl dX8_init_37 ?_
  refine lv_iload_n hx hb dX8_init_40 rfl (lv_at hl 0 rfl) ?_
  refine ynew hC hK hH nlX8_15 (Nat.le_of_ble_eq_true rfl) (Nat.le_of_ble_eq_true rfl) dX8_init_41 (fun q29 H M30 e_q29 hz nM_q29 nT_q29 hc_q29 hfr hN => ?_)
  have g_q29 : sz ≤ q29 := by rw [← hsz, e_q29]; exact hH.2.1.1
  have n_h_q29 : h ≠ q29 := neN hc_h nM_q29
  have n_q29_h : q29 ≠ h := Ne.symm n_h_q29
  have n_q1_q29 : q1 ≠ q29 := neN hc_q1 nM_q29
  have n_q29_q1 : q29 ≠ q1 := Ne.symm n_q1_q29
  have n_q4_q29 : q4 ≠ q29 := neN hc_q4 nM_q29
  have n_q29_q4 : q29 ≠ q4 := Ne.symm n_q4_q29
  have n_q7_q29 : q7 ≠ q29 := neN hc_q7 nM_q29
  have n_q29_q7 : q29 ≠ q7 := Ne.symm n_q7_q29
  have hH := hN
  have hc_q29 : M30 q29 = some (.inr (0, [.int 0, .int 0, .int 0, .int 0, .int 0, .int 0, .int 0, .int 0, .int 0, .int 0, .int 0, .int 0, .null, .null, .null, .null, .null, .null, .null])) := hc_q29
  have hc_h : M30 h = some (.inr (6, [.int 0, .int 0, .int 0, .int 0, .int 0, .int 0, .int 0, .int 0, .ref q1, .ref q4, .ref q7])) := (hfr h n_h_q29).trans hc_h
  have hc_q1 : M30 q1 = some (.inl (kA 0, 8, .inl (fun _ => 0))) := (hfr q1 n_q1_q29).trans hc_q1
  have hc_q4 : M30 q4 = some (.inl (kA 5, 4, .inr (.inr (.inr (.inr (va_up (va_up (va_up (fun _ => none) (Int32.toNatClampNeg 0) (some q11)) (Int32.toNatClampNeg 1) (some q17)) (Int32.toNatClampNeg 2) (some q23))))))) := (hfr q4 n_q4_q29).trans hc_q4
  have hc_q7 : M30 q7 = some (.inl (kA 1, 600, .inl (fun _ => 0))) := (hfr q7 n_q7_q29).trans hc_q7
  have hF : ∀ a, a ≠ h → a < sz → M30 a = M a := fun a h0 h1 => (hfr a (Nat.ne_of_lt (Nat.lt_of_lt_of_le h1 g_q29))).trans (hF a h0 h1)
  refine lv_dup hx hb dX8_init_44 rfl ?_
  have lt_q29 : q29 < Array.size H := hH.1.ltM (by rw [hc_q29]; simp)
  have gH : sz ≤ Array.size H := by rw [← hsz]; exact hH.2.1.1
  have lt_h : h < Array.size H := hH.1.ltM (by rw [hc_h]; simp)
  have lt_q1 : q1 < Array.size H := hH.1.ltM (by rw [hc_q1]; simp)
  have lt_q4 : q4 < Array.size H := hH.1.ltM (by rw [hc_q4]; simp)
  have lt_q7 : q7 < Array.size H := hH.1.ltM (by rw [hc_q7]; simp)
  have lt_q29 : q29 < Array.size H := hH.1.ltM (by rw [hc_q29]; simp)
  refine goV hK hH (runI (As := []) (rest := [.ref q29, .int 3, .ref q4]) hC hK hH (c_X1_init hc_q29 lt_q29) mlX8_25 ⟨⟨Nat.le_of_ble_eq_true rfl, Nat.le_of_ble_eq_true rfl⟩, Nat.le_of_ble_eq_true rfl, Nat.le_of_ble_eq_true rfl⟩ rfl hl.1 rfl (Nat.le_of_ble_eq_true rfl) dX8_init_45) (fun M31 T32 H locs hP hz hH => ?_)
  try dsimp only at hP
  obtain ⟨nM_q29, t_q29, hsub, hfr⟩ := hP
  have hc_h : M31 h = some (.inr (6, [.int 0, .int 0, .int 0, .int 0, .int 0, .int 0, .int 0, .int 0, .ref q1, .ref q4, .ref q7])) := (hfr h n_h_q29 lt_h).trans hc_h
  have hc_q1 : M31 q1 = some (.inl (kA 0, 8, .inl (fun _ => 0))) := (hfr q1 n_q1_q29 lt_q1).trans hc_q1
  have hc_q4 : M31 q4 = some (.inl (kA 5, 4, .inr (.inr (.inr (.inr (va_up (va_up (va_up (fun _ => none) (Int32.toNatClampNeg 0) (some q11)) (Int32.toNatClampNeg 1) (some q17)) (Int32.toNatClampNeg 2) (some q23))))))) := (hfr q4 n_q4_q29 lt_q4).trans hc_q4
  have hc_q7 : M31 q7 = some (.inl (kA 1, 600, .inl (fun _ => 0))) := (hfr q7 n_q7_q29 lt_q7).trans hc_q7
  have t_q11 : T32 q11 = some 2 := hsub _ _ t_q11
  have t_q17 : T32 q17 = some 2 := hsub _ _ t_q17
  have t_q23 : T32 q23 = some 2 := hsub _ _ t_q23
  have hTT : ∀ a t, T a = some t → T32 a = some t := fun a t h => hsub _ _ (hTT a t h)
  have hF : ∀ a, a ≠ h → a < sz → M31 a = M a := fun a h0 h1 => (hfr a (Nat.ne_of_lt (Nat.lt_of_lt_of_le h1 g_q29)) (Nat.lt_of_lt_of_le h1 gH)).trans (hF a h0 h1)
  refine yqst (ck := 5) (cv := 0) (v := q29) hC hK hH rfl rfl hc_q4 (let ⟨fs, h1, _⟩ := tcell hH t_q29 rfl; ⟨fs, h1⟩) (iIn (by decide) (by decide)) dX8_init_48 (fun H locs M33 hc_q4 hfr hH => ?_)
  have hc_q4 : M33 q4 = some (.inl (kA 5, 4, .inr (.inr (.inr (.inr (va_up (va_up (va_up (va_up (fun _ => none) (Int32.toNatClampNeg 0) (some q11)) (Int32.toNatClampNeg 1) (some q17)) (Int32.toNatClampNeg 2) (some q23)) (Int32.toNatClampNeg 3) (some q29))))))) := hc_q4
  have hc_h : M33 h = some (.inr (6, [.int 0, .int 0, .int 0, .int 0, .int 0, .int 0, .int 0, .int 0, .ref q1, .ref q4, .ref q7])) := (hfr h n_h_q4).trans hc_h
  have hc_q1 : M33 q1 = some (.inl (kA 0, 8, .inl (fun _ => 0))) := (hfr q1 n_q1_q4).trans hc_q1
  have hc_q7 : M33 q7 = some (.inl (kA 1, 600, .inl (fun _ => 0))) := (hfr q7 n_q7_q4).trans hc_q7
  have hF : ∀ a, a ≠ h → a < sz → M33 a = M a := fun a h0 h1 => (hfr a (Nat.ne_of_lt (Nat.lt_of_lt_of_le h1 g_q4))).trans (hF a h0 h1)
  refine lv_iinc (v := 4) (lv' := [(1, .int 4), (0, .ref h)]) hx hb dX8_init_49 hl (k := 0) rfl (by decide) (by decide) rfl (fun ls hl => ?_)
  refine lv_goto (tgt := 31) hx hb dX8_init_52 (by decide) ?_
  refine lv_iload_n hx hb dX8_init_31 rfl (lv_at hl 0 rfl) ?_
  refine lv_iconst (v := 4) hx hb dX8_init_32 (by decide) ?_
  refine jic_ge (tgt := 55) hx hb dX8_init_33 (by decide) (fun c34 => ?_) (fun c34 => absurd c34 (by decide))
  refine lv_aload_n hx hb dX8_init_55 rfl (lv_at hl 1 rfl) ?_
  refine goV hK hH (runV (As := []) (rest := []) hC hK hH (c_X8_begin hc_h hc_q1) mlX8_26 (rcvM hK hH hc_h rfl) ⟨⟨Nat.le_of_ble_eq_true rfl, Nat.le_of_ble_eq_true rfl⟩, Nat.le_of_ble_eq_true rfl, Nat.le_of_ble_eq_true rfl⟩ rfl hl.1 rfl (Nat.le_of_ble_eq_true rfl) dX8_init_56) (fun M35 T36 H locs hP hz hH => ?_)
  try dsimp only at hP
  obtain ⟨(⟨hx_h, hx_q1⟩), eT, hfr⟩ := hP
  have eT := eT.symm; subst eT
  have hc_h : M35 h = some (.inr (6, [.int 0, .int 2, .int 0, .int 0, .int 0, .int 0, .int 0, .int (-1), .ref q1, .ref q4, .ref q7])) := hx_h
  have hc_q1 : M35 q1 = some (.inl (kA 0, 8, .inl (c100 (fun _ => 0)))) := hx_q1
  have hc_q4 : M35 q4 = some (.inl (kA 5, 4, .inr (.inr (.inr (.inr (va_up (va_up (va_up (va_up (fun _ => none) (Int32.toNatClampNeg 0) (some q11)) (Int32.toNatClampNeg 1) (some q17)) (Int32.toNatClampNeg 2) (some q23)) (Int32.toNatClampNeg 3) (some q29))))))) := (hfr q4 n_q4_h n_q4_q1).trans hc_q4
  have hc_q7 : M35 q7 = some (.inl (kA 1, 600, .inl (fun _ => 0))) := (hfr q7 n_q7_h n_q7_q1).trans hc_q7
  have hF : ∀ a, a ≠ h → a < sz → M35 a = M a := fun a h0 h1 => (hfr a h0 (Nat.ne_of_lt (Nat.lt_of_lt_of_le h1 g_q1))).trans (hF a h0 h1)
  have hq : ∀ j, j < 4 → ∃ q, (va_up (va_up (va_up (va_up (fun _ => none) (Int32.toNatClampNeg 0) (some q11)) (Int32.toNatClampNeg 1) (some q17)) (Int32.toNatClampNeg 2) (some q23)) (Int32.toNatClampNeg 3) (some q29)) j = some q ∧ T32 q = some 2 := by
    intro j hj
    rcases (show j = 0 ∨ j = 1 ∨ j = 2 ∨ j = 3 by omega) with rfl | rfl | rfl | rfl
    · exact ⟨q11, rfl, t_q11⟩
    · exact ⟨q17, rfl, t_q17⟩
    · exact ⟨q23, rfl, t_q23⟩
    · exact ⟨q29, rfl, t_q29⟩
  obtain ⟨M38, T39, nM_q4, hfr, t_q4, hfT, hsub, hH⟩ := hH.re2 (τ := 6) hc_q4 (conf_q rfl (fun j hj => let ⟨q, h1, h2⟩ := hq j hj; ⟨q, h1, by rw [upN _ _ (fun z => by rw [z, hH.1.TN (by rw [hc_q4]; simp)] at h2; cases h2)]; exact h2⟩))
  have hc_h : M38 h = some (.inr (6, [.int 0, .int 2, .int 0, .int 0, .int 0, .int 0, .int 0, .int (-1), .ref q1, .ref q4, .ref q7])) := (hfr h n_h_q4).trans hc_h
  have hc_q1 : M38 q1 = some (.inl (kA 0, 8, .inl (c100 (fun _ => 0)))) := (hfr q1 n_q1_q4).trans hc_q1
  have hc_q7 : M38 q7 = some (.inl (kA 1, 600, .inl (fun _ => 0))) := (hfr q7 n_q7_q4).trans hc_q7
  have t_q11 : T39 q11 = some 2 := hsub _ _ t_q11
  have t_q17 : T39 q17 = some 2 := hsub _ _ t_q17
  have t_q23 : T39 q23 = some 2 := hsub _ _ t_q23
  have t_q29 : T39 q29 = some 2 := hsub _ _ t_q29
  have hTT : ∀ a t, T a = some t → T39 a = some t := fun a t h => hsub _ _ (hTT a t h)
  have hF : ∀ a, a ≠ h → a < sz → M38 a = M a := fun a h0 h1 => (hfr a (Nat.ne_of_lt (Nat.lt_of_lt_of_le h1 g_q4))).trans (hF a h0 h1)
  obtain ⟨M40, T41, nM_q7, hfr, t_q7, hfT, hsub, hH⟩ := hH.re2 (τ := 7) hc_q7 (conf_i rfl (fun _ _ => ⟨by decide, by decide⟩))
  have hc_h : M40 h = some (.inr (6, [.int 0, .int 2, .int 0, .int 0, .int 0, .int 0, .int 0, .int (-1), .ref q1, .ref q4, .ref q7])) := (hfr h n_h_q7).trans hc_h
  have hc_q1 : M40 q1 = some (.inl (kA 0, 8, .inl (c100 (fun _ => 0)))) := (hfr q1 n_q1_q7).trans hc_q1
  have t_q11 : T41 q11 = some 2 := hsub _ _ t_q11
  have t_q17 : T41 q17 = some 2 := hsub _ _ t_q17
  have t_q23 : T41 q23 = some 2 := hsub _ _ t_q23
  have t_q29 : T41 q29 = some 2 := hsub _ _ t_q29
  have t_q4 : T41 q4 = some 6 := hsub _ _ t_q4
  have hTT : ∀ a t, T a = some t → T41 a = some t := fun a t h => hsub _ _ (hTT a t h)
  have hF : ∀ a, a ≠ h → a < sz → M40 a = M a := fun a h0 h1 => (hfr a (Nat.ne_of_lt (Nat.lt_of_lt_of_le h1 g_q7))).trans (hF a h0 h1)
  exact ret_v hC hr hlk hK hH (⟨q1, q4, q7, hc_h, hc_q1, t_q4, t_q7, g_q1, g_q4, g_q7, hTT, hF⟩) (Nat.le_of_ble_eq_true rfl) (Nat.le_of_ble_eq_true rfl) dX8_init_59
set_option maxHeartbeats 4000000 in
set_option maxRecDepth 100000 in
theorem c_X5_init {l : Launch} {D : va_G} {kA : Nat → ClassId} {M : mM} {T : mT} {sz h : Nat} (hc_h : M h = some (.inr (4, [.null, .null, .null, .int 0]))) (hlt : h < sz) : mCv l yX5_init cX5_init 1 3 24 273 D kA M T sz [.ref h] (fun u => u.1 h = none ∧ u.2 h = some 10 ∧ (∀ a t, T a = some t → u.2 a = some t) ∧ ∀ a, a ≠ h → a < sz → u.1 a = M a) := by
  unfold mCv
  refine start_W (by decide) (Nat.le_of_ble_eq_true rfl) ?_
  intro p e s m below meth c ls hC hr hlk hnm hK hH hsz hl
  have hx := hC.1
  have hb := hC.2.1
  have hl : lv_has ls 1 [(0, .ref h)] := hl
  have hF : ∀ a, a ≠ h → a < sz → M a = M a := fun a _ _ => rfl
  have hTT : ∀ a t, T a = some t → T a = some t := fun _ _ h => h
  refine lv_aload_n hx hb dX5_init_0 rfl (lv_at hl 0 rfl) ?_
  refine W.objInit hx hb hC.2.2.2.1 (hC.2.2.2.2 _ wlX5_3) (hC.2.2.2.2 _ w_oi) (hC.2.2.2.2 _ w_oc) rfl (by rw [hC.2.2.1]; exact hl.1) rfl dX5_init_1 (Nat.le_of_ble_eq_true rfl) (Nat.le_of_ble_eq_true rfl) ?_
  refine W.eq (g2 := F0 m 4 ls []) rfl ?_
  refine lv_aload_n hx hb dX5_init_4 rfl (lv_at hl 0 rfl) ?_
  refine ynew hC hK hH nlX5_9 (Nat.le_of_ble_eq_true rfl) (Nat.le_of_ble_eq_true rfl) dX5_init_5 (fun q1 H M2 e_q1 hz nM_q1 nT_q1 hc_q1 hfr hN => ?_)
  have g_q1 : sz ≤ q1 := by rw [← hsz, e_q1]; exact hH.2.1.1
  have n_h_q1 : h ≠ q1 := neN hc_h nM_q1
  have n_q1_h : q1 ≠ h := Ne.symm n_h_q1
  have hH := hN
  have hc_q1 : M2 q1 = some (.inr (0, [.int 0, .int 0, .int 0, .int 0, .int 0, .int 0, .int 0, .int 0, .int 0, .int 0, .int 0, .int 0, .null, .null, .null, .null, .null, .null, .null])) := hc_q1
  have hc_h : M2 h = some (.inr (4, [.null, .null, .null, .int 0])) := (hfr h n_h_q1).trans hc_h
  have hF : ∀ a, a ≠ h → a < sz → M2 a = M a := fun a h0 h1 => (hfr a (Nat.ne_of_lt (Nat.lt_of_lt_of_le h1 g_q1))).trans (hF a h0 h1)
  refine lv_dup hx hb dX5_init_8 rfl ?_
  have lt_q1 : q1 < Array.size H := hH.1.ltM (by rw [hc_q1]; simp)
  have gH : sz ≤ Array.size H := by rw [← hsz]; exact hH.2.1.1
  have lt_h : h < Array.size H := hH.1.ltM (by rw [hc_h]; simp)
  have lt_q1 : q1 < Array.size H := hH.1.ltM (by rw [hc_q1]; simp)
  refine goV hK hH (runI (As := []) (rest := [.ref q1, .ref h]) hC hK hH (c_X1_init hc_q1 lt_q1) mlX5_11 ⟨⟨Nat.le_of_ble_eq_true rfl, Nat.le_of_ble_eq_true rfl⟩, Nat.le_of_ble_eq_true rfl, Nat.le_of_ble_eq_true rfl⟩ rfl hl.1 rfl (Nat.le_of_ble_eq_true rfl) dX5_init_9) (fun M3 T4 H locs hP hz hH => ?_)
  try dsimp only at hP
  obtain ⟨nM_q1, t_q1, hsub, hfr⟩ := hP
  have hc_h : M3 h = some (.inr (4, [.null, .null, .null, .int 0])) := (hfr h n_h_q1 lt_h).trans hc_h
  have hTT : ∀ a t, T a = some t → T4 a = some t := fun a t h => hsub _ _ (hTT a t h)
  have hF : ∀ a, a ≠ h → a < sz → M3 a = M a := fun a h0 h1 => (hfr a (Nat.ne_of_lt (Nat.lt_of_lt_of_le h1 g_q1)) (Nat.lt_of_lt_of_le h1 gH)).trans (hF a h0 h1)
  refine ypF (v := .ref q1) hC hK hH hnm (fun _ _ _ h => by cases h; rfl) flX5_12 hc_h rfl rfl (Nat.le_of_ble_eq_true rfl) dX5_init_12 (fun H locs M5 hc_h hfr hH => ?_)
  have hc_h : M5 h = some (.inr (4, [.ref q1, .null, .null, .int 0])) := hc_h
  have hF : ∀ a, a ≠ h → a < sz → M5 a = M a := fun a h0 h1 => (hfr a h0).trans (hF a h0 h1)
  refine lv_aload_n hx hb dX5_init_15 rfl (lv_at hl 0 rfl) ?_
  refine lv_bipush (v := 8) hx hb dX5_init_16 (by decide) ?_
  refine ynewa (atype := .int) (ck := 0) (N := 8) (a0 := (8, .inl (fun _ => 0))) hC hK hH rfl w_ac0 rfl (fun _ h => by cases h) (fun _ => rfl) (by decide) (by decide) (by decide) (Nat.le_of_ble_eq_true rfl) (Nat.le_of_ble_eq_true rfl) dX5_init_18 (fun q6 H M7 e_q6 hz nM_q6 nT_q6 hc_q6 hfr hN => ?_)
  have g_q6 : sz ≤ q6 := by rw [← hsz, e_q6]; exact hH.2.1.1
  have n_h_q6 : h ≠ q6 := neN hc_h nM_q6
  have n_q6_h : q6 ≠ h := Ne.symm n_h_q6
  have hH := hN
  have hc_q6 : M7 q6 = some (.inl (kA 0, 8, .inl (fun _ => 0))) := hc_q6
  have hc_h : M7 h = some (.inr (4, [.ref q1, .null, .null, .int 0])) := (hfr h n_h_q6).trans hc_h
  have hF : ∀ a, a ≠ h → a < sz → M7 a = M a := fun a h0 h1 => (hfr a (Nat.ne_of_lt (Nat.lt_of_lt_of_le h1 g_q6))).trans (hF a h0 h1)
  refine ypF (v := .ref q6) hC hK hH hnm (fun _ _ _ h => by cases h; rfl) flX5_18 hc_h rfl rfl (Nat.le_of_ble_eq_true rfl) dX5_init_20 (fun H locs M8 hc_h hfr hH => ?_)
  have hc_h : M8 h = some (.inr (4, [.ref q1, .ref q6, .null, .int 0])) := hc_h
  have hc_q6 : M8 q6 = some (.inl (kA 0, 8, .inl (fun _ => 0))) := (hfr q6 n_q6_h).trans hc_q6
  have hF : ∀ a, a ≠ h → a < sz → M8 a = M a := fun a h0 h1 => (hfr a h0).trans (hF a h0 h1)
  refine lv_aload_n hx hb dX5_init_23 rfl (lv_at hl 0 rfl) ?_
  refine lv_bipush (v := 14) hx hb dX5_init_24 (by decide) ?_
  refine ynewa (atype := .int) (ck := 0) (N := 14) (a0 := (14, .inl (fun _ => 0))) hC hK hH rfl w_ac0 rfl (fun _ h => by cases h) (fun _ => rfl) (by decide) (by decide) (by decide) (Nat.le_of_ble_eq_true rfl) (Nat.le_of_ble_eq_true rfl) dX5_init_26 (fun q9 H M10 e_q9 hz nM_q9 nT_q9 hc_q9 hfr hN => ?_)
  have g_q9 : sz ≤ q9 := by rw [← hsz, e_q9]; exact hH.2.1.1
  have n_h_q9 : h ≠ q9 := neN hc_h nM_q9
  have n_q9_h : q9 ≠ h := Ne.symm n_h_q9
  have n_q6_q9 : q6 ≠ q9 := neN hc_q6 nM_q9
  have n_q9_q6 : q9 ≠ q6 := Ne.symm n_q6_q9
  have hH := hN
  have hc_q9 : M10 q9 = some (.inl (kA 0, 14, .inl (fun _ => 0))) := hc_q9
  have hc_h : M10 h = some (.inr (4, [.ref q1, .ref q6, .null, .int 0])) := (hfr h n_h_q9).trans hc_h
  have hc_q6 : M10 q6 = some (.inl (kA 0, 8, .inl (fun _ => 0))) := (hfr q6 n_q6_q9).trans hc_q6
  have hF : ∀ a, a ≠ h → a < sz → M10 a = M a := fun a h0 h1 => (hfr a (Nat.ne_of_lt (Nat.lt_of_lt_of_le h1 g_q9))).trans (hF a h0 h1)
  refine ypF (v := .ref q9) hC hK hH hnm (fun _ _ _ h => by cases h; rfl) flX5_22 hc_h rfl rfl (Nat.le_of_ble_eq_true rfl) dX5_init_28 (fun H locs M11 hc_h hfr hH => ?_)
  have hc_h : M11 h = some (.inr (4, [.ref q1, .ref q6, .ref q9, .int 0])) := hc_h
  have hc_q6 : M11 q6 = some (.inl (kA 0, 8, .inl (fun _ => 0))) := (hfr q6 n_q6_h).trans hc_q6
  have hc_q9 : M11 q9 = some (.inl (kA 0, 14, .inl (fun _ => 0))) := (hfr q9 n_q9_h).trans hc_q9
  have hF : ∀ a, a ≠ h → a < sz → M11 a = M a := fun a h0 h1 => (hfr a h0).trans (hF a h0 h1)
  obtain ⟨M12, T13, nM_q6, hfr, t_q6, hfT, hsub, hH⟩ := hH.re2 (τ := 3) hc_q6 (conf_i rfl (fun _ _ => iRg _))
  have hc_h : M12 h = some (.inr (4, [.ref q1, .ref q6, .ref q9, .int 0])) := (hfr h n_h_q6).trans hc_h
  have hc_q9 : M12 q9 = some (.inl (kA 0, 14, .inl (fun _ => 0))) := (hfr q9 n_q9_q6).trans hc_q9
  have t_q1 : T13 q1 = some 2 := hsub _ _ t_q1
  have hTT : ∀ a t, T a = some t → T13 a = some t := fun a t h => hsub _ _ (hTT a t h)
  have hF : ∀ a, a ≠ h → a < sz → M12 a = M a := fun a h0 h1 => (hfr a (Nat.ne_of_lt (Nat.lt_of_lt_of_le h1 g_q6))).trans (hF a h0 h1)
  obtain ⟨M14, T15, nM_q9, hfr, t_q9, hfT, hsub, hH⟩ := hH.re2 (τ := 5) hc_q9 (conf_i rfl (fun _ _ => iRg _))
  have hc_h : M14 h = some (.inr (4, [.ref q1, .ref q6, .ref q9, .int 0])) := (hfr h n_h_q9).trans hc_h
  have t_q1 : T15 q1 = some 2 := hsub _ _ t_q1
  have t_q6 : T15 q6 = some 3 := hsub _ _ t_q6
  have hTT : ∀ a t, T a = some t → T15 a = some t := fun a t h => hsub _ _ (hTT a t h)
  have hF : ∀ a, a ≠ h → a < sz → M14 a = M a := fun a h0 h1 => (hfr a (Nat.ne_of_lt (Nat.lt_of_lt_of_le h1 g_q9))).trans (hF a h0 h1)
  obtain ⟨M16, T17, nM_h, hfr, t_h, hfT, hsub, hH⟩ := hH.re2 (τ := 10) hc_h (conf_o rfl ⟨okR (by rw [upN _ _ (fun z => by rw [z] at t_q1; rw [hH.1.TN (by rw [hc_h]; simp)] at t_q1; cases t_q1)]; exact t_q1), okR (by rw [upN _ _ (fun z => by rw [z] at t_q6; rw [hH.1.TN (by rw [hc_h]; simp)] at t_q6; cases t_q6)]; exact t_q6), okR (by rw [upN _ _ (fun z => by rw [z] at t_q9; rw [hH.1.TN (by rw [hc_h]; simp)] at t_q9; cases t_q9)]; exact t_q9), okI (by decide) (by decide), trivial⟩)
  have t_q1 : T17 q1 = some 2 := hsub _ _ t_q1
  have t_q6 : T17 q6 = some 3 := hsub _ _ t_q6
  have t_q9 : T17 q9 = some 5 := hsub _ _ t_q9
  have hTT : ∀ a t, T a = some t → T17 a = some t := fun a t h => hsub _ _ (hTT a t h)
  have hF : ∀ a, a ≠ h → a < sz → M16 a = M a := fun a h0 h1 => (hfr a h0).trans (hF a h0 h1)
  exact ret_v hC hr hlk hK hH (⟨nM_h, t_h, hTT, hF⟩) (Nat.le_of_ble_eq_true rfl) (Nat.le_of_ble_eq_true rfl) dX5_init_31
set_option maxHeartbeats 4000000 in
set_option maxRecDepth 100000 in
theorem c_X3_init {l : Launch} {D : va_G} {kA : Nat → ClassId} {M : mM} {T : mT} {sz h : Nat} (hc_h : M h = some (.inr (2, [.null]))) (hlt : h < sz) : mCv l yX3_init cX3_init 2 2 27 221 D kA M T sz [.ref h] (fun u => u.1 h = none ∧ u.2 h = some 9 ∧ (∀ a t, T a = some t → u.2 a = some t) ∧ ∀ a, a ≠ h → a < sz → u.1 a = M a) := by
  unfold mCv
  refine start_W (by decide) (Nat.le_of_ble_eq_true rfl) ?_
  intro p e s m below meth c ls hC hr hlk hnm hK hH hsz hl
  have hx := hC.1
  have hb := hC.2.1
  have hl : lv_has ls 2 [(0, .ref h)] := hl
  have hF : ∀ a, a ≠ h → a < sz → M a = M a := fun a _ _ => rfl
  have hTT : ∀ a t, T a = some t → T a = some t := fun _ _ h => h
  refine lv_aload_n hx hb dX3_init_0 rfl (lv_at hl 0 rfl) ?_
  refine W.objInit hx hb hC.2.2.2.1 (hC.2.2.2.2 _ wlX3_3) (hC.2.2.2.2 _ w_oi) (hC.2.2.2.2 _ w_oc) rfl (by rw [hC.2.2.1]; exact hl.1) rfl dX3_init_1 (Nat.le_of_ble_eq_true rfl) (Nat.le_of_ble_eq_true rfl) ?_
  refine W.eq (g2 := F0 m 4 ls []) rfl ?_
  refine lv_aload_n hx hb dX3_init_4 rfl (lv_at hl 0 rfl) ?_
  refine lv_bipush (v := 13) hx hb dX3_init_5 (by decide) ?_
  refine ynewq (ck := 4) (N := 13) hC hK hH wcX3_9 (by decide) rfl (by decide) (by decide) (by decide) (Nat.le_of_ble_eq_true rfl) (Nat.le_of_ble_eq_true rfl) dX3_init_7 (fun q1 H M2 e_q1 hz nM_q1 nT_q1 hc_q1 hfr hN => ?_)
  have g_q1 : sz ≤ q1 := by rw [← hsz, e_q1]; exact hH.2.1.1
  have n_h_q1 : h ≠ q1 := neN hc_h nM_q1
  have n_q1_h : q1 ≠ h := Ne.symm n_h_q1
  have hH := hN
  have hc_q1 : M2 q1 = some (.inl (kA 4, 13, .inr (.inr (.inr (.inr (fun _ => none)))))) := hc_q1
  have hc_h : M2 h = some (.inr (2, [.null])) := (hfr h n_h_q1).trans hc_h
  have hF : ∀ a, a ≠ h → a < sz → M2 a = M a := fun a h0 h1 => (hfr a (Nat.ne_of_lt (Nat.lt_of_lt_of_le h1 g_q1))).trans (hF a h0 h1)
  refine ypF (v := .ref q1) hC hK hH hnm (fun _ _ _ h => by cases h; rfl) flX3_11 hc_h rfl rfl (Nat.le_of_ble_eq_true rfl) dX3_init_10 (fun H locs M3 hc_h hfr hH => ?_)
  have hc_h : M3 h = some (.inr (2, [.ref q1])) := hc_h
  have hc_q1 : M3 q1 = some (.inl (kA 4, 13, .inr (.inr (.inr (.inr (fun _ => none)))))) := (hfr q1 n_q1_h).trans hc_q1
  have hF : ∀ a, a ≠ h → a < sz → M3 a = M a := fun a h0 h1 => (hfr a h0).trans (hF a h0 h1)
  refine lv_iconst (v := 0) hx hb dX3_init_13 (by decide) ?_
  refine lv_istore_n (lv' := [(1, .int 0), (0, .ref h)]) hx hb dX3_init_14 rfl hl (by decide) rfl (fun ls hl => ?_)
  refine lv_iload_n hx hb dX3_init_15 rfl (lv_at hl 0 rfl) ?_
  refine lv_bipush (v := 12) hx hb dX3_init_16 (by decide) ?_
  refine jic_gt (tgt := 40) hx hb dX3_init_18 (by decide) (fun c4 => absurd c4 (by decide)) (fun c4 => ?_)
  refine lv_aload_n hx hb dX3_init_21 rfl (lv_at hl 1 rfl) ?_
  refine xg hC hK hH flX3_11 hc_h rfl dX3_init_22 ?_
  refine lv_iload_n hx hb dX3_init_25 rfl (lv_at hl 0 rfl) ?_
  refine ynew hC hK hH nlX3_9 (Nat.le_of_ble_eq_true rfl) (Nat.le_of_ble_eq_true rfl) dX3_init_26 (fun q5 H M6 e_q5 hz nM_q5 nT_q5 hc_q5 hfr hN => ?_)
  have g_q5 : sz ≤ q5 := by rw [← hsz, e_q5]; exact hH.2.1.1
  have n_h_q5 : h ≠ q5 := neN hc_h nM_q5
  have n_q5_h : q5 ≠ h := Ne.symm n_h_q5
  have n_q1_q5 : q1 ≠ q5 := neN hc_q1 nM_q5
  have n_q5_q1 : q5 ≠ q1 := Ne.symm n_q1_q5
  have hH := hN
  have hc_q5 : M6 q5 = some (.inr (1, [.int 0, .int 0, .int 0, .int 0, .int 0, .int 0, .int 0, .null])) := hc_q5
  have hc_h : M6 h = some (.inr (2, [.ref q1])) := (hfr h n_h_q5).trans hc_h
  have hc_q1 : M6 q1 = some (.inl (kA 4, 13, .inr (.inr (.inr (.inr (fun _ => none)))))) := (hfr q1 n_q1_q5).trans hc_q1
  have hF : ∀ a, a ≠ h → a < sz → M6 a = M a := fun a h0 h1 => (hfr a (Nat.ne_of_lt (Nat.lt_of_lt_of_le h1 g_q5))).trans (hF a h0 h1)
  refine lv_dup hx hb dX3_init_29 rfl ?_
  have lt_q5 : q5 < Array.size H := hH.1.ltM (by rw [hc_q5]; simp)
  have gH : sz ≤ Array.size H := by rw [← hsz]; exact hH.2.1.1
  have lt_h : h < Array.size H := hH.1.ltM (by rw [hc_h]; simp)
  have lt_q1 : q1 < Array.size H := hH.1.ltM (by rw [hc_q1]; simp)
  have lt_q5 : q5 < Array.size H := hH.1.ltM (by rw [hc_q5]; simp)
  refine goV hK hH (runIN (As := []) (rest := [.ref q5, .int 0, .ref q1]) hC hK hH (c_X2_init hc_q5 lt_q5) mlX3_17 ⟨⟨Nat.le_of_ble_eq_true rfl, Nat.le_of_ble_eq_true rfl⟩, Nat.le_of_ble_eq_true rfl, Nat.le_of_ble_eq_true rfl⟩ rfl hl.1 rfl (Nat.le_of_ble_eq_true rfl) dX3_init_30) (fun M7 T8 H locs hP hz hH => ?_)
  try dsimp only at hP
  obtain ⟨nM_q5, t_q5, hsub, hfr⟩ := hP
  have hc_h : M7 h = some (.inr (2, [.ref q1])) := (hfr h n_h_q5 lt_h).trans hc_h
  have hc_q1 : M7 q1 = some (.inl (kA 4, 13, .inr (.inr (.inr (.inr (fun _ => none)))))) := (hfr q1 n_q1_q5 lt_q1).trans hc_q1
  have hTT : ∀ a t, T a = some t → T8 a = some t := fun a t h => hsub _ _ (hTT a t h)
  have hF : ∀ a, a ≠ h → a < sz → M7 a = M a := fun a h0 h1 => (hfr a (Nat.ne_of_lt (Nat.lt_of_lt_of_le h1 g_q5)) (Nat.lt_of_lt_of_le h1 gH)).trans (hF a h0 h1)
  refine yqst (ck := 4) (cv := 1) (v := q5) hC hK hH rfl rfl hc_q1 (let ⟨fs, h1, _⟩ := tcell hH t_q5 rfl; ⟨fs, h1⟩) (iIn (by decide) (by decide)) dX3_init_33 (fun H locs M9 hc_q1 hfr hH => ?_)
  have hc_q1 : M9 q1 = some (.inl (kA 4, 13, .inr (.inr (.inr (.inr (va_up (fun _ => none) (Int32.toNatClampNeg 0) (some q5))))))) := hc_q1
  have hc_h : M9 h = some (.inr (2, [.ref q1])) := (hfr h n_h_q1).trans hc_h
  have hF : ∀ a, a ≠ h → a < sz → M9 a = M a := fun a h0 h1 => (hfr a (Nat.ne_of_lt (Nat.lt_of_lt_of_le h1 g_q1))).trans (hF a h0 h1)
  refine lv_iinc (v := 1) (lv' := [(1, .int 1), (0, .ref h)]) hx hb dX3_init_34 hl (k := 0) rfl (by decide) (by decide) rfl (fun ls hl => ?_)
  refine lv_goto (tgt := 15) hx hb dX3_init_37 (by decide) ?_
  refine lv_iload_n hx hb dX3_init_15 rfl (lv_at hl 0 rfl) ?_
  refine lv_bipush (v := 12) hx hb dX3_init_16 (by decide) ?_
  refine jic_gt (tgt := 40) hx hb dX3_init_18 (by decide) (fun c10 => absurd c10 (by decide)) (fun c10 => ?_)
  refine lv_aload_n hx hb dX3_init_21 rfl (lv_at hl 1 rfl) ?_
  refine xg hC hK hH flX3_11 hc_h rfl dX3_init_22 ?_
  refine lv_iload_n hx hb dX3_init_25 rfl (lv_at hl 0 rfl) ?_
  refine ynew hC hK hH nlX3_9 (Nat.le_of_ble_eq_true rfl) (Nat.le_of_ble_eq_true rfl) dX3_init_26 (fun q11 H M12 e_q11 hz nM_q11 nT_q11 hc_q11 hfr hN => ?_)
  have g_q11 : sz ≤ q11 := by rw [← hsz, e_q11]; exact hH.2.1.1
  have n_h_q11 : h ≠ q11 := neN hc_h nM_q11
  have n_q11_h : q11 ≠ h := Ne.symm n_h_q11
  have n_q1_q11 : q1 ≠ q11 := neN hc_q1 nM_q11
  have n_q11_q1 : q11 ≠ q1 := Ne.symm n_q1_q11
  have hH := hN
  have hc_q11 : M12 q11 = some (.inr (1, [.int 0, .int 0, .int 0, .int 0, .int 0, .int 0, .int 0, .null])) := hc_q11
  have hc_h : M12 h = some (.inr (2, [.ref q1])) := (hfr h n_h_q11).trans hc_h
  have hc_q1 : M12 q1 = some (.inl (kA 4, 13, .inr (.inr (.inr (.inr (va_up (fun _ => none) (Int32.toNatClampNeg 0) (some q5))))))) := (hfr q1 n_q1_q11).trans hc_q1
  have hF : ∀ a, a ≠ h → a < sz → M12 a = M a := fun a h0 h1 => (hfr a (Nat.ne_of_lt (Nat.lt_of_lt_of_le h1 g_q11))).trans (hF a h0 h1)
  refine lv_dup hx hb dX3_init_29 rfl ?_
  have lt_q11 : q11 < Array.size H := hH.1.ltM (by rw [hc_q11]; simp)
  have gH : sz ≤ Array.size H := by rw [← hsz]; exact hH.2.1.1
  have lt_h : h < Array.size H := hH.1.ltM (by rw [hc_h]; simp)
  have lt_q1 : q1 < Array.size H := hH.1.ltM (by rw [hc_q1]; simp)
  have lt_q11 : q11 < Array.size H := hH.1.ltM (by rw [hc_q11]; simp)
  refine goV hK hH (runIN (As := []) (rest := [.ref q11, .int 1, .ref q1]) hC hK hH (c_X2_init hc_q11 lt_q11) mlX3_17 ⟨⟨Nat.le_of_ble_eq_true rfl, Nat.le_of_ble_eq_true rfl⟩, Nat.le_of_ble_eq_true rfl, Nat.le_of_ble_eq_true rfl⟩ rfl hl.1 rfl (Nat.le_of_ble_eq_true rfl) dX3_init_30) (fun M13 T14 H locs hP hz hH => ?_)
  try dsimp only at hP
  obtain ⟨nM_q11, t_q11, hsub, hfr⟩ := hP
  have hc_h : M13 h = some (.inr (2, [.ref q1])) := (hfr h n_h_q11 lt_h).trans hc_h
  have hc_q1 : M13 q1 = some (.inl (kA 4, 13, .inr (.inr (.inr (.inr (va_up (fun _ => none) (Int32.toNatClampNeg 0) (some q5))))))) := (hfr q1 n_q1_q11 lt_q1).trans hc_q1
  have t_q5 : T14 q5 = some 1 := hsub _ _ t_q5
  have hTT : ∀ a t, T a = some t → T14 a = some t := fun a t h => hsub _ _ (hTT a t h)
  have hF : ∀ a, a ≠ h → a < sz → M13 a = M a := fun a h0 h1 => (hfr a (Nat.ne_of_lt (Nat.lt_of_lt_of_le h1 g_q11)) (Nat.lt_of_lt_of_le h1 gH)).trans (hF a h0 h1)
  refine yqst (ck := 4) (cv := 1) (v := q11) hC hK hH rfl rfl hc_q1 (let ⟨fs, h1, _⟩ := tcell hH t_q11 rfl; ⟨fs, h1⟩) (iIn (by decide) (by decide)) dX3_init_33 (fun H locs M15 hc_q1 hfr hH => ?_)
  have hc_q1 : M15 q1 = some (.inl (kA 4, 13, .inr (.inr (.inr (.inr (va_up (va_up (fun _ => none) (Int32.toNatClampNeg 0) (some q5)) (Int32.toNatClampNeg 1) (some q11))))))) := hc_q1
  have hc_h : M15 h = some (.inr (2, [.ref q1])) := (hfr h n_h_q1).trans hc_h
  have hF : ∀ a, a ≠ h → a < sz → M15 a = M a := fun a h0 h1 => (hfr a (Nat.ne_of_lt (Nat.lt_of_lt_of_le h1 g_q1))).trans (hF a h0 h1)
  refine lv_iinc (v := 2) (lv' := [(1, .int 2), (0, .ref h)]) hx hb dX3_init_34 hl (k := 0) rfl (by decide) (by decide) rfl (fun ls hl => ?_)
  refine lv_goto (tgt := 15) hx hb dX3_init_37 (by decide) ?_
  refine lv_iload_n hx hb dX3_init_15 rfl (lv_at hl 0 rfl) ?_
  refine lv_bipush (v := 12) hx hb dX3_init_16 (by decide) ?_
  refine jic_gt (tgt := 40) hx hb dX3_init_18 (by decide) (fun c16 => absurd c16 (by decide)) (fun c16 => ?_)
  refine lv_aload_n hx hb dX3_init_21 rfl (lv_at hl 1 rfl) ?_
  refine xg hC hK hH flX3_11 hc_h rfl dX3_init_22 ?_
  refine lv_iload_n hx hb dX3_init_25 rfl (lv_at hl 0 rfl) ?_
  refine ynew hC hK hH nlX3_9 (Nat.le_of_ble_eq_true rfl) (Nat.le_of_ble_eq_true rfl) dX3_init_26 (fun q17 H M18 e_q17 hz nM_q17 nT_q17 hc_q17 hfr hN => ?_)
  have g_q17 : sz ≤ q17 := by rw [← hsz, e_q17]; exact hH.2.1.1
  have n_h_q17 : h ≠ q17 := neN hc_h nM_q17
  have n_q17_h : q17 ≠ h := Ne.symm n_h_q17
  have n_q1_q17 : q1 ≠ q17 := neN hc_q1 nM_q17
  have n_q17_q1 : q17 ≠ q1 := Ne.symm n_q1_q17
  have hH := hN
  have hc_q17 : M18 q17 = some (.inr (1, [.int 0, .int 0, .int 0, .int 0, .int 0, .int 0, .int 0, .null])) := hc_q17
  have hc_h : M18 h = some (.inr (2, [.ref q1])) := (hfr h n_h_q17).trans hc_h
  have hc_q1 : M18 q1 = some (.inl (kA 4, 13, .inr (.inr (.inr (.inr (va_up (va_up (fun _ => none) (Int32.toNatClampNeg 0) (some q5)) (Int32.toNatClampNeg 1) (some q11))))))) := (hfr q1 n_q1_q17).trans hc_q1
  have hF : ∀ a, a ≠ h → a < sz → M18 a = M a := fun a h0 h1 => (hfr a (Nat.ne_of_lt (Nat.lt_of_lt_of_le h1 g_q17))).trans (hF a h0 h1)
  refine lv_dup hx hb dX3_init_29 rfl ?_
  have lt_q17 : q17 < Array.size H := hH.1.ltM (by rw [hc_q17]; simp)
  have gH : sz ≤ Array.size H := by rw [← hsz]; exact hH.2.1.1
  have lt_h : h < Array.size H := hH.1.ltM (by rw [hc_h]; simp)
  have lt_q1 : q1 < Array.size H := hH.1.ltM (by rw [hc_q1]; simp)
  have lt_q17 : q17 < Array.size H := hH.1.ltM (by rw [hc_q17]; simp)
  refine goV hK hH (runIN (As := []) (rest := [.ref q17, .int 2, .ref q1]) hC hK hH (c_X2_init hc_q17 lt_q17) mlX3_17 ⟨⟨Nat.le_of_ble_eq_true rfl, Nat.le_of_ble_eq_true rfl⟩, Nat.le_of_ble_eq_true rfl, Nat.le_of_ble_eq_true rfl⟩ rfl hl.1 rfl (Nat.le_of_ble_eq_true rfl) dX3_init_30) (fun M19 T20 H locs hP hz hH => ?_)
  try dsimp only at hP
  obtain ⟨nM_q17, t_q17, hsub, hfr⟩ := hP
  have hc_h : M19 h = some (.inr (2, [.ref q1])) := (hfr h n_h_q17 lt_h).trans hc_h
  have hc_q1 : M19 q1 = some (.inl (kA 4, 13, .inr (.inr (.inr (.inr (va_up (va_up (fun _ => none) (Int32.toNatClampNeg 0) (some q5)) (Int32.toNatClampNeg 1) (some q11))))))) := (hfr q1 n_q1_q17 lt_q1).trans hc_q1
  have t_q5 : T20 q5 = some 1 := hsub _ _ t_q5
  have t_q11 : T20 q11 = some 1 := hsub _ _ t_q11
  have hTT : ∀ a t, T a = some t → T20 a = some t := fun a t h => hsub _ _ (hTT a t h)
  have hF : ∀ a, a ≠ h → a < sz → M19 a = M a := fun a h0 h1 => (hfr a (Nat.ne_of_lt (Nat.lt_of_lt_of_le h1 g_q17)) (Nat.lt_of_lt_of_le h1 gH)).trans (hF a h0 h1)
  refine yqst (ck := 4) (cv := 1) (v := q17) hC hK hH rfl rfl hc_q1 (let ⟨fs, h1, _⟩ := tcell hH t_q17 rfl; ⟨fs, h1⟩) (iIn (by decide) (by decide)) dX3_init_33 (fun H locs M21 hc_q1 hfr hH => ?_)
  have hc_q1 : M21 q1 = some (.inl (kA 4, 13, .inr (.inr (.inr (.inr (va_up (va_up (va_up (fun _ => none) (Int32.toNatClampNeg 0) (some q5)) (Int32.toNatClampNeg 1) (some q11)) (Int32.toNatClampNeg 2) (some q17))))))) := hc_q1
  have hc_h : M21 h = some (.inr (2, [.ref q1])) := (hfr h n_h_q1).trans hc_h
  have hF : ∀ a, a ≠ h → a < sz → M21 a = M a := fun a h0 h1 => (hfr a (Nat.ne_of_lt (Nat.lt_of_lt_of_le h1 g_q1))).trans (hF a h0 h1)
  refine lv_iinc (v := 3) (lv' := [(1, .int 3), (0, .ref h)]) hx hb dX3_init_34 hl (k := 0) rfl (by decide) (by decide) rfl (fun ls hl => ?_)
  refine lv_goto (tgt := 15) hx hb dX3_init_37 (by decide) ?_
  refine lv_iload_n hx hb dX3_init_15 rfl (lv_at hl 0 rfl) ?_
  refine lv_bipush (v := 12) hx hb dX3_init_16 (by decide) ?_
  refine jic_gt (tgt := 40) hx hb dX3_init_18 (by decide) (fun c22 => absurd c22 (by decide)) (fun c22 => ?_)
  refine lv_aload_n hx hb dX3_init_21 rfl (lv_at hl 1 rfl) ?_
  refine xg hC hK hH flX3_11 hc_h rfl dX3_init_22 ?_
  refine lv_iload_n hx hb dX3_init_25 rfl (lv_at hl 0 rfl) ?_
  refine ynew hC hK hH nlX3_9 (Nat.le_of_ble_eq_true rfl) (Nat.le_of_ble_eq_true rfl) dX3_init_26 (fun q23 H M24 e_q23 hz nM_q23 nT_q23 hc_q23 hfr hN => ?_)
  have g_q23 : sz ≤ q23 := by rw [← hsz, e_q23]; exact hH.2.1.1
  have n_h_q23 : h ≠ q23 := neN hc_h nM_q23
  have n_q23_h : q23 ≠ h := Ne.symm n_h_q23
  have n_q1_q23 : q1 ≠ q23 := neN hc_q1 nM_q23
  have n_q23_q1 : q23 ≠ q1 := Ne.symm n_q1_q23
  have hH := hN
  have hc_q23 : M24 q23 = some (.inr (1, [.int 0, .int 0, .int 0, .int 0, .int 0, .int 0, .int 0, .null])) := hc_q23
  have hc_h : M24 h = some (.inr (2, [.ref q1])) := (hfr h n_h_q23).trans hc_h
  have hc_q1 : M24 q1 = some (.inl (kA 4, 13, .inr (.inr (.inr (.inr (va_up (va_up (va_up (fun _ => none) (Int32.toNatClampNeg 0) (some q5)) (Int32.toNatClampNeg 1) (some q11)) (Int32.toNatClampNeg 2) (some q17))))))) := (hfr q1 n_q1_q23).trans hc_q1
  have hF : ∀ a, a ≠ h → a < sz → M24 a = M a := fun a h0 h1 => (hfr a (Nat.ne_of_lt (Nat.lt_of_lt_of_le h1 g_q23))).trans (hF a h0 h1)
  refine lv_dup hx hb dX3_init_29 rfl ?_
  have lt_q23 : q23 < Array.size H := hH.1.ltM (by rw [hc_q23]; simp)
  have gH : sz ≤ Array.size H := by rw [← hsz]; exact hH.2.1.1
  have lt_h : h < Array.size H := hH.1.ltM (by rw [hc_h]; simp)
  have lt_q1 : q1 < Array.size H := hH.1.ltM (by rw [hc_q1]; simp)
  have lt_q23 : q23 < Array.size H := hH.1.ltM (by rw [hc_q23]; simp)
  refine goV hK hH (runIN (As := []) (rest := [.ref q23, .int 3, .ref q1]) hC hK hH (c_X2_init hc_q23 lt_q23) mlX3_17 ⟨⟨Nat.le_of_ble_eq_true rfl, Nat.le_of_ble_eq_true rfl⟩, Nat.le_of_ble_eq_true rfl, Nat.le_of_ble_eq_true rfl⟩ rfl hl.1 rfl (Nat.le_of_ble_eq_true rfl) dX3_init_30) (fun M25 T26 H locs hP hz hH => ?_)
  try dsimp only at hP
  obtain ⟨nM_q23, t_q23, hsub, hfr⟩ := hP
  have hc_h : M25 h = some (.inr (2, [.ref q1])) := (hfr h n_h_q23 lt_h).trans hc_h
  have hc_q1 : M25 q1 = some (.inl (kA 4, 13, .inr (.inr (.inr (.inr (va_up (va_up (va_up (fun _ => none) (Int32.toNatClampNeg 0) (some q5)) (Int32.toNatClampNeg 1) (some q11)) (Int32.toNatClampNeg 2) (some q17))))))) := (hfr q1 n_q1_q23 lt_q1).trans hc_q1
  have t_q5 : T26 q5 = some 1 := hsub _ _ t_q5
  have t_q11 : T26 q11 = some 1 := hsub _ _ t_q11
  have t_q17 : T26 q17 = some 1 := hsub _ _ t_q17
  have hTT : ∀ a t, T a = some t → T26 a = some t := fun a t h => hsub _ _ (hTT a t h)
  have hF : ∀ a, a ≠ h → a < sz → M25 a = M a := fun a h0 h1 => (hfr a (Nat.ne_of_lt (Nat.lt_of_lt_of_le h1 g_q23)) (Nat.lt_of_lt_of_le h1 gH)).trans (hF a h0 h1)
  refine yqst (ck := 4) (cv := 1) (v := q23) hC hK hH rfl rfl hc_q1 (let ⟨fs, h1, _⟩ := tcell hH t_q23 rfl; ⟨fs, h1⟩) (iIn (by decide) (by decide)) dX3_init_33 (fun H locs M27 hc_q1 hfr hH => ?_)
  have hc_q1 : M27 q1 = some (.inl (kA 4, 13, .inr (.inr (.inr (.inr (va_up (va_up (va_up (va_up (fun _ => none) (Int32.toNatClampNeg 0) (some q5)) (Int32.toNatClampNeg 1) (some q11)) (Int32.toNatClampNeg 2) (some q17)) (Int32.toNatClampNeg 3) (some q23))))))) := hc_q1
  have hc_h : M27 h = some (.inr (2, [.ref q1])) := (hfr h n_h_q1).trans hc_h
  have hF : ∀ a, a ≠ h → a < sz → M27 a = M a := fun a h0 h1 => (hfr a (Nat.ne_of_lt (Nat.lt_of_lt_of_le h1 g_q1))).trans (hF a h0 h1)
  refine lv_iinc (v := 4) (lv' := [(1, .int 4), (0, .ref h)]) hx hb dX3_init_34 hl (k := 0) rfl (by decide) (by decide) rfl (fun ls hl => ?_)
  refine lv_goto (tgt := 15) hx hb dX3_init_37 (by decide) ?_
  refine lv_iload_n hx hb dX3_init_15 rfl (lv_at hl 0 rfl) ?_
  refine lv_bipush (v := 12) hx hb dX3_init_16 (by decide) ?_
  refine jic_gt (tgt := 40) hx hb dX3_init_18 (by decide) (fun c28 => absurd c28 (by decide)) (fun c28 => ?_)
  refine lv_aload_n hx hb dX3_init_21 rfl (lv_at hl 1 rfl) ?_
  refine xg hC hK hH flX3_11 hc_h rfl dX3_init_22 ?_
  refine lv_iload_n hx hb dX3_init_25 rfl (lv_at hl 0 rfl) ?_
  refine ynew hC hK hH nlX3_9 (Nat.le_of_ble_eq_true rfl) (Nat.le_of_ble_eq_true rfl) dX3_init_26 (fun q29 H M30 e_q29 hz nM_q29 nT_q29 hc_q29 hfr hN => ?_)
  have g_q29 : sz ≤ q29 := by rw [← hsz, e_q29]; exact hH.2.1.1
  have n_h_q29 : h ≠ q29 := neN hc_h nM_q29
  have n_q29_h : q29 ≠ h := Ne.symm n_h_q29
  have n_q1_q29 : q1 ≠ q29 := neN hc_q1 nM_q29
  have n_q29_q1 : q29 ≠ q1 := Ne.symm n_q1_q29
  have hH := hN
  have hc_q29 : M30 q29 = some (.inr (1, [.int 0, .int 0, .int 0, .int 0, .int 0, .int 0, .int 0, .null])) := hc_q29
  have hc_h : M30 h = some (.inr (2, [.ref q1])) := (hfr h n_h_q29).trans hc_h
  have hc_q1 : M30 q1 = some (.inl (kA 4, 13, .inr (.inr (.inr (.inr (va_up (va_up (va_up (va_up (fun _ => none) (Int32.toNatClampNeg 0) (some q5)) (Int32.toNatClampNeg 1) (some q11)) (Int32.toNatClampNeg 2) (some q17)) (Int32.toNatClampNeg 3) (some q23))))))) := (hfr q1 n_q1_q29).trans hc_q1
  have hF : ∀ a, a ≠ h → a < sz → M30 a = M a := fun a h0 h1 => (hfr a (Nat.ne_of_lt (Nat.lt_of_lt_of_le h1 g_q29))).trans (hF a h0 h1)
  refine lv_dup hx hb dX3_init_29 rfl ?_
  have lt_q29 : q29 < Array.size H := hH.1.ltM (by rw [hc_q29]; simp)
  have gH : sz ≤ Array.size H := by rw [← hsz]; exact hH.2.1.1
  have lt_h : h < Array.size H := hH.1.ltM (by rw [hc_h]; simp)
  have lt_q1 : q1 < Array.size H := hH.1.ltM (by rw [hc_q1]; simp)
  have lt_q29 : q29 < Array.size H := hH.1.ltM (by rw [hc_q29]; simp)
  refine goV hK hH (runIN (As := []) (rest := [.ref q29, .int 4, .ref q1]) hC hK hH (c_X2_init hc_q29 lt_q29) mlX3_17 ⟨⟨Nat.le_of_ble_eq_true rfl, Nat.le_of_ble_eq_true rfl⟩, Nat.le_of_ble_eq_true rfl, Nat.le_of_ble_eq_true rfl⟩ rfl hl.1 rfl (Nat.le_of_ble_eq_true rfl) dX3_init_30) (fun M31 T32 H locs hP hz hH => ?_)
  try dsimp only at hP
  obtain ⟨nM_q29, t_q29, hsub, hfr⟩ := hP
  have hc_h : M31 h = some (.inr (2, [.ref q1])) := (hfr h n_h_q29 lt_h).trans hc_h
  have hc_q1 : M31 q1 = some (.inl (kA 4, 13, .inr (.inr (.inr (.inr (va_up (va_up (va_up (va_up (fun _ => none) (Int32.toNatClampNeg 0) (some q5)) (Int32.toNatClampNeg 1) (some q11)) (Int32.toNatClampNeg 2) (some q17)) (Int32.toNatClampNeg 3) (some q23))))))) := (hfr q1 n_q1_q29 lt_q1).trans hc_q1
  have t_q5 : T32 q5 = some 1 := hsub _ _ t_q5
  have t_q11 : T32 q11 = some 1 := hsub _ _ t_q11
  have t_q17 : T32 q17 = some 1 := hsub _ _ t_q17
  have t_q23 : T32 q23 = some 1 := hsub _ _ t_q23
  have hTT : ∀ a t, T a = some t → T32 a = some t := fun a t h => hsub _ _ (hTT a t h)
  have hF : ∀ a, a ≠ h → a < sz → M31 a = M a := fun a h0 h1 => (hfr a (Nat.ne_of_lt (Nat.lt_of_lt_of_le h1 g_q29)) (Nat.lt_of_lt_of_le h1 gH)).trans (hF a h0 h1)
  refine yqst (ck := 4) (cv := 1) (v := q29) hC hK hH rfl rfl hc_q1 (let ⟨fs, h1, _⟩ := tcell hH t_q29 rfl; ⟨fs, h1⟩) (iIn (by decide) (by decide)) dX3_init_33 (fun H locs M33 hc_q1 hfr hH => ?_)
  have hc_q1 : M33 q1 = some (.inl (kA 4, 13, .inr (.inr (.inr (.inr (va_up (va_up (va_up (va_up (va_up (fun _ => none) (Int32.toNatClampNeg 0) (some q5)) (Int32.toNatClampNeg 1) (some q11)) (Int32.toNatClampNeg 2) (some q17)) (Int32.toNatClampNeg 3) (some q23)) (Int32.toNatClampNeg 4) (some q29))))))) := hc_q1
  have hc_h : M33 h = some (.inr (2, [.ref q1])) := (hfr h n_h_q1).trans hc_h
  have hF : ∀ a, a ≠ h → a < sz → M33 a = M a := fun a h0 h1 => (hfr a (Nat.ne_of_lt (Nat.lt_of_lt_of_le h1 g_q1))).trans (hF a h0 h1)
  refine lv_iinc (v := 5) (lv' := [(1, .int 5), (0, .ref h)]) hx hb dX3_init_34 hl (k := 0) rfl (by decide) (by decide) rfl (fun ls hl => ?_)
  refine lv_goto (tgt := 15) hx hb dX3_init_37 (by decide) ?_
  refine lv_iload_n hx hb dX3_init_15 rfl (lv_at hl 0 rfl) ?_
  refine lv_bipush (v := 12) hx hb dX3_init_16 (by decide) ?_
  refine jic_gt (tgt := 40) hx hb dX3_init_18 (by decide) (fun c34 => absurd c34 (by decide)) (fun c34 => ?_)
  refine lv_aload_n hx hb dX3_init_21 rfl (lv_at hl 1 rfl) ?_
  refine xg hC hK hH flX3_11 hc_h rfl dX3_init_22 ?_
  refine lv_iload_n hx hb dX3_init_25 rfl (lv_at hl 0 rfl) ?_
  refine ynew hC hK hH nlX3_9 (Nat.le_of_ble_eq_true rfl) (Nat.le_of_ble_eq_true rfl) dX3_init_26 (fun q35 H M36 e_q35 hz nM_q35 nT_q35 hc_q35 hfr hN => ?_)
  have g_q35 : sz ≤ q35 := by rw [← hsz, e_q35]; exact hH.2.1.1
  have n_h_q35 : h ≠ q35 := neN hc_h nM_q35
  have n_q35_h : q35 ≠ h := Ne.symm n_h_q35
  have n_q1_q35 : q1 ≠ q35 := neN hc_q1 nM_q35
  have n_q35_q1 : q35 ≠ q1 := Ne.symm n_q1_q35
  have hH := hN
  have hc_q35 : M36 q35 = some (.inr (1, [.int 0, .int 0, .int 0, .int 0, .int 0, .int 0, .int 0, .null])) := hc_q35
  have hc_h : M36 h = some (.inr (2, [.ref q1])) := (hfr h n_h_q35).trans hc_h
  have hc_q1 : M36 q1 = some (.inl (kA 4, 13, .inr (.inr (.inr (.inr (va_up (va_up (va_up (va_up (va_up (fun _ => none) (Int32.toNatClampNeg 0) (some q5)) (Int32.toNatClampNeg 1) (some q11)) (Int32.toNatClampNeg 2) (some q17)) (Int32.toNatClampNeg 3) (some q23)) (Int32.toNatClampNeg 4) (some q29))))))) := (hfr q1 n_q1_q35).trans hc_q1
  have hF : ∀ a, a ≠ h → a < sz → M36 a = M a := fun a h0 h1 => (hfr a (Nat.ne_of_lt (Nat.lt_of_lt_of_le h1 g_q35))).trans (hF a h0 h1)
  refine lv_dup hx hb dX3_init_29 rfl ?_
  have lt_q35 : q35 < Array.size H := hH.1.ltM (by rw [hc_q35]; simp)
  have gH : sz ≤ Array.size H := by rw [← hsz]; exact hH.2.1.1
  have lt_h : h < Array.size H := hH.1.ltM (by rw [hc_h]; simp)
  have lt_q1 : q1 < Array.size H := hH.1.ltM (by rw [hc_q1]; simp)
  have lt_q35 : q35 < Array.size H := hH.1.ltM (by rw [hc_q35]; simp)
  refine goV hK hH (runIN (As := []) (rest := [.ref q35, .int 5, .ref q1]) hC hK hH (c_X2_init hc_q35 lt_q35) mlX3_17 ⟨⟨Nat.le_of_ble_eq_true rfl, Nat.le_of_ble_eq_true rfl⟩, Nat.le_of_ble_eq_true rfl, Nat.le_of_ble_eq_true rfl⟩ rfl hl.1 rfl (Nat.le_of_ble_eq_true rfl) dX3_init_30) (fun M37 T38 H locs hP hz hH => ?_)
  try dsimp only at hP
  obtain ⟨nM_q35, t_q35, hsub, hfr⟩ := hP
  have hc_h : M37 h = some (.inr (2, [.ref q1])) := (hfr h n_h_q35 lt_h).trans hc_h
  have hc_q1 : M37 q1 = some (.inl (kA 4, 13, .inr (.inr (.inr (.inr (va_up (va_up (va_up (va_up (va_up (fun _ => none) (Int32.toNatClampNeg 0) (some q5)) (Int32.toNatClampNeg 1) (some q11)) (Int32.toNatClampNeg 2) (some q17)) (Int32.toNatClampNeg 3) (some q23)) (Int32.toNatClampNeg 4) (some q29))))))) := (hfr q1 n_q1_q35 lt_q1).trans hc_q1
  have t_q5 : T38 q5 = some 1 := hsub _ _ t_q5
  have t_q11 : T38 q11 = some 1 := hsub _ _ t_q11
  have t_q17 : T38 q17 = some 1 := hsub _ _ t_q17
  have t_q23 : T38 q23 = some 1 := hsub _ _ t_q23
  have t_q29 : T38 q29 = some 1 := hsub _ _ t_q29
  have hTT : ∀ a t, T a = some t → T38 a = some t := fun a t h => hsub _ _ (hTT a t h)
  have hF : ∀ a, a ≠ h → a < sz → M37 a = M a := fun a h0 h1 => (hfr a (Nat.ne_of_lt (Nat.lt_of_lt_of_le h1 g_q35)) (Nat.lt_of_lt_of_le h1 gH)).trans (hF a h0 h1)
  refine yqst (ck := 4) (cv := 1) (v := q35) hC hK hH rfl rfl hc_q1 (let ⟨fs, h1, _⟩ := tcell hH t_q35 rfl; ⟨fs, h1⟩) (iIn (by decide) (by decide)) dX3_init_33 (fun H locs M39 hc_q1 hfr hH => ?_)
  have hc_q1 : M39 q1 = some (.inl (kA 4, 13, .inr (.inr (.inr (.inr (va_up (va_up (va_up (va_up (va_up (va_up (fun _ => none) (Int32.toNatClampNeg 0) (some q5)) (Int32.toNatClampNeg 1) (some q11)) (Int32.toNatClampNeg 2) (some q17)) (Int32.toNatClampNeg 3) (some q23)) (Int32.toNatClampNeg 4) (some q29)) (Int32.toNatClampNeg 5) (some q35))))))) := hc_q1
  have hc_h : M39 h = some (.inr (2, [.ref q1])) := (hfr h n_h_q1).trans hc_h
  have hF : ∀ a, a ≠ h → a < sz → M39 a = M a := fun a h0 h1 => (hfr a (Nat.ne_of_lt (Nat.lt_of_lt_of_le h1 g_q1))).trans (hF a h0 h1)
  refine lv_iinc (v := 6) (lv' := [(1, .int 6), (0, .ref h)]) hx hb dX3_init_34 hl (k := 0) rfl (by decide) (by decide) rfl (fun ls hl => ?_)
  refine lv_goto (tgt := 15) hx hb dX3_init_37 (by decide) ?_
  refine lv_iload_n hx hb dX3_init_15 rfl (lv_at hl 0 rfl) ?_
  refine lv_bipush (v := 12) hx hb dX3_init_16 (by decide) ?_
  refine jic_gt (tgt := 40) hx hb dX3_init_18 (by decide) (fun c40 => absurd c40 (by decide)) (fun c40 => ?_)
  refine lv_aload_n hx hb dX3_init_21 rfl (lv_at hl 1 rfl) ?_
  refine xg hC hK hH flX3_11 hc_h rfl dX3_init_22 ?_
  refine lv_iload_n hx hb dX3_init_25 rfl (lv_at hl 0 rfl) ?_
  refine ynew hC hK hH nlX3_9 (Nat.le_of_ble_eq_true rfl) (Nat.le_of_ble_eq_true rfl) dX3_init_26 (fun q41 H M42 e_q41 hz nM_q41 nT_q41 hc_q41 hfr hN => ?_)
  have g_q41 : sz ≤ q41 := by rw [← hsz, e_q41]; exact hH.2.1.1
  have n_h_q41 : h ≠ q41 := neN hc_h nM_q41
  have n_q41_h : q41 ≠ h := Ne.symm n_h_q41
  have n_q1_q41 : q1 ≠ q41 := neN hc_q1 nM_q41
  have n_q41_q1 : q41 ≠ q1 := Ne.symm n_q1_q41
  have hH := hN
  have hc_q41 : M42 q41 = some (.inr (1, [.int 0, .int 0, .int 0, .int 0, .int 0, .int 0, .int 0, .null])) := hc_q41
  have hc_h : M42 h = some (.inr (2, [.ref q1])) := (hfr h n_h_q41).trans hc_h
  have hc_q1 : M42 q1 = some (.inl (kA 4, 13, .inr (.inr (.inr (.inr (va_up (va_up (va_up (va_up (va_up (va_up (fun _ => none) (Int32.toNatClampNeg 0) (some q5)) (Int32.toNatClampNeg 1) (some q11)) (Int32.toNatClampNeg 2) (some q17)) (Int32.toNatClampNeg 3) (some q23)) (Int32.toNatClampNeg 4) (some q29)) (Int32.toNatClampNeg 5) (some q35))))))) := (hfr q1 n_q1_q41).trans hc_q1
  have hF : ∀ a, a ≠ h → a < sz → M42 a = M a := fun a h0 h1 => (hfr a (Nat.ne_of_lt (Nat.lt_of_lt_of_le h1 g_q41))).trans (hF a h0 h1)
  refine lv_dup hx hb dX3_init_29 rfl ?_
  have lt_q41 : q41 < Array.size H := hH.1.ltM (by rw [hc_q41]; simp)
  have gH : sz ≤ Array.size H := by rw [← hsz]; exact hH.2.1.1
  have lt_h : h < Array.size H := hH.1.ltM (by rw [hc_h]; simp)
  have lt_q1 : q1 < Array.size H := hH.1.ltM (by rw [hc_q1]; simp)
  have lt_q41 : q41 < Array.size H := hH.1.ltM (by rw [hc_q41]; simp)
  refine goV hK hH (runIN (As := []) (rest := [.ref q41, .int 6, .ref q1]) hC hK hH (c_X2_init hc_q41 lt_q41) mlX3_17 ⟨⟨Nat.le_of_ble_eq_true rfl, Nat.le_of_ble_eq_true rfl⟩, Nat.le_of_ble_eq_true rfl, Nat.le_of_ble_eq_true rfl⟩ rfl hl.1 rfl (Nat.le_of_ble_eq_true rfl) dX3_init_30) (fun M43 T44 H locs hP hz hH => ?_)
  try dsimp only at hP
  obtain ⟨nM_q41, t_q41, hsub, hfr⟩ := hP
  have hc_h : M43 h = some (.inr (2, [.ref q1])) := (hfr h n_h_q41 lt_h).trans hc_h
  have hc_q1 : M43 q1 = some (.inl (kA 4, 13, .inr (.inr (.inr (.inr (va_up (va_up (va_up (va_up (va_up (va_up (fun _ => none) (Int32.toNatClampNeg 0) (some q5)) (Int32.toNatClampNeg 1) (some q11)) (Int32.toNatClampNeg 2) (some q17)) (Int32.toNatClampNeg 3) (some q23)) (Int32.toNatClampNeg 4) (some q29)) (Int32.toNatClampNeg 5) (some q35))))))) := (hfr q1 n_q1_q41 lt_q1).trans hc_q1
  have t_q5 : T44 q5 = some 1 := hsub _ _ t_q5
  have t_q11 : T44 q11 = some 1 := hsub _ _ t_q11
  have t_q17 : T44 q17 = some 1 := hsub _ _ t_q17
  have t_q23 : T44 q23 = some 1 := hsub _ _ t_q23
  have t_q29 : T44 q29 = some 1 := hsub _ _ t_q29
  have t_q35 : T44 q35 = some 1 := hsub _ _ t_q35
  have hTT : ∀ a t, T a = some t → T44 a = some t := fun a t h => hsub _ _ (hTT a t h)
  have hF : ∀ a, a ≠ h → a < sz → M43 a = M a := fun a h0 h1 => (hfr a (Nat.ne_of_lt (Nat.lt_of_lt_of_le h1 g_q41)) (Nat.lt_of_lt_of_le h1 gH)).trans (hF a h0 h1)
  refine yqst (ck := 4) (cv := 1) (v := q41) hC hK hH rfl rfl hc_q1 (let ⟨fs, h1, _⟩ := tcell hH t_q41 rfl; ⟨fs, h1⟩) (iIn (by decide) (by decide)) dX3_init_33 (fun H locs M45 hc_q1 hfr hH => ?_)
  have hc_q1 : M45 q1 = some (.inl (kA 4, 13, .inr (.inr (.inr (.inr (va_up (va_up (va_up (va_up (va_up (va_up (va_up (fun _ => none) (Int32.toNatClampNeg 0) (some q5)) (Int32.toNatClampNeg 1) (some q11)) (Int32.toNatClampNeg 2) (some q17)) (Int32.toNatClampNeg 3) (some q23)) (Int32.toNatClampNeg 4) (some q29)) (Int32.toNatClampNeg 5) (some q35)) (Int32.toNatClampNeg 6) (some q41))))))) := hc_q1
  have hc_h : M45 h = some (.inr (2, [.ref q1])) := (hfr h n_h_q1).trans hc_h
  have hF : ∀ a, a ≠ h → a < sz → M45 a = M a := fun a h0 h1 => (hfr a (Nat.ne_of_lt (Nat.lt_of_lt_of_le h1 g_q1))).trans (hF a h0 h1)
  refine lv_iinc (v := 7) (lv' := [(1, .int 7), (0, .ref h)]) hx hb dX3_init_34 hl (k := 0) rfl (by decide) (by decide) rfl (fun ls hl => ?_)
  refine lv_goto (tgt := 15) hx hb dX3_init_37 (by decide) ?_
  refine lv_iload_n hx hb dX3_init_15 rfl (lv_at hl 0 rfl) ?_
  refine lv_bipush (v := 12) hx hb dX3_init_16 (by decide) ?_
  refine jic_gt (tgt := 40) hx hb dX3_init_18 (by decide) (fun c46 => absurd c46 (by decide)) (fun c46 => ?_)
  refine lv_aload_n hx hb dX3_init_21 rfl (lv_at hl 1 rfl) ?_
  refine xg hC hK hH flX3_11 hc_h rfl dX3_init_22 ?_
  refine lv_iload_n hx hb dX3_init_25 rfl (lv_at hl 0 rfl) ?_
  refine ynew hC hK hH nlX3_9 (Nat.le_of_ble_eq_true rfl) (Nat.le_of_ble_eq_true rfl) dX3_init_26 (fun q47 H M48 e_q47 hz nM_q47 nT_q47 hc_q47 hfr hN => ?_)
  have g_q47 : sz ≤ q47 := by rw [← hsz, e_q47]; exact hH.2.1.1
  have n_h_q47 : h ≠ q47 := neN hc_h nM_q47
  have n_q47_h : q47 ≠ h := Ne.symm n_h_q47
  have n_q1_q47 : q1 ≠ q47 := neN hc_q1 nM_q47
  have n_q47_q1 : q47 ≠ q1 := Ne.symm n_q1_q47
  have hH := hN
  have hc_q47 : M48 q47 = some (.inr (1, [.int 0, .int 0, .int 0, .int 0, .int 0, .int 0, .int 0, .null])) := hc_q47
  have hc_h : M48 h = some (.inr (2, [.ref q1])) := (hfr h n_h_q47).trans hc_h
  have hc_q1 : M48 q1 = some (.inl (kA 4, 13, .inr (.inr (.inr (.inr (va_up (va_up (va_up (va_up (va_up (va_up (va_up (fun _ => none) (Int32.toNatClampNeg 0) (some q5)) (Int32.toNatClampNeg 1) (some q11)) (Int32.toNatClampNeg 2) (some q17)) (Int32.toNatClampNeg 3) (some q23)) (Int32.toNatClampNeg 4) (some q29)) (Int32.toNatClampNeg 5) (some q35)) (Int32.toNatClampNeg 6) (some q41))))))) := (hfr q1 n_q1_q47).trans hc_q1
  have hF : ∀ a, a ≠ h → a < sz → M48 a = M a := fun a h0 h1 => (hfr a (Nat.ne_of_lt (Nat.lt_of_lt_of_le h1 g_q47))).trans (hF a h0 h1)
  refine lv_dup hx hb dX3_init_29 rfl ?_
  have lt_q47 : q47 < Array.size H := hH.1.ltM (by rw [hc_q47]; simp)
  have gH : sz ≤ Array.size H := by rw [← hsz]; exact hH.2.1.1
  have lt_h : h < Array.size H := hH.1.ltM (by rw [hc_h]; simp)
  have lt_q1 : q1 < Array.size H := hH.1.ltM (by rw [hc_q1]; simp)
  have lt_q47 : q47 < Array.size H := hH.1.ltM (by rw [hc_q47]; simp)
  refine goV hK hH (runIN (As := []) (rest := [.ref q47, .int 7, .ref q1]) hC hK hH (c_X2_init hc_q47 lt_q47) mlX3_17 ⟨⟨Nat.le_of_ble_eq_true rfl, Nat.le_of_ble_eq_true rfl⟩, Nat.le_of_ble_eq_true rfl, Nat.le_of_ble_eq_true rfl⟩ rfl hl.1 rfl (Nat.le_of_ble_eq_true rfl) dX3_init_30) (fun M49 T50 H locs hP hz hH => ?_)
  try dsimp only at hP
  obtain ⟨nM_q47, t_q47, hsub, hfr⟩ := hP
  have hc_h : M49 h = some (.inr (2, [.ref q1])) := (hfr h n_h_q47 lt_h).trans hc_h
  have hc_q1 : M49 q1 = some (.inl (kA 4, 13, .inr (.inr (.inr (.inr (va_up (va_up (va_up (va_up (va_up (va_up (va_up (fun _ => none) (Int32.toNatClampNeg 0) (some q5)) (Int32.toNatClampNeg 1) (some q11)) (Int32.toNatClampNeg 2) (some q17)) (Int32.toNatClampNeg 3) (some q23)) (Int32.toNatClampNeg 4) (some q29)) (Int32.toNatClampNeg 5) (some q35)) (Int32.toNatClampNeg 6) (some q41))))))) := (hfr q1 n_q1_q47 lt_q1).trans hc_q1
  have t_q5 : T50 q5 = some 1 := hsub _ _ t_q5
  have t_q11 : T50 q11 = some 1 := hsub _ _ t_q11
  have t_q17 : T50 q17 = some 1 := hsub _ _ t_q17
  have t_q23 : T50 q23 = some 1 := hsub _ _ t_q23
  have t_q29 : T50 q29 = some 1 := hsub _ _ t_q29
  have t_q35 : T50 q35 = some 1 := hsub _ _ t_q35
  have t_q41 : T50 q41 = some 1 := hsub _ _ t_q41
  have hTT : ∀ a t, T a = some t → T50 a = some t := fun a t h => hsub _ _ (hTT a t h)
  have hF : ∀ a, a ≠ h → a < sz → M49 a = M a := fun a h0 h1 => (hfr a (Nat.ne_of_lt (Nat.lt_of_lt_of_le h1 g_q47)) (Nat.lt_of_lt_of_le h1 gH)).trans (hF a h0 h1)
  refine yqst (ck := 4) (cv := 1) (v := q47) hC hK hH rfl rfl hc_q1 (let ⟨fs, h1, _⟩ := tcell hH t_q47 rfl; ⟨fs, h1⟩) (iIn (by decide) (by decide)) dX3_init_33 (fun H locs M51 hc_q1 hfr hH => ?_)
  have hc_q1 : M51 q1 = some (.inl (kA 4, 13, .inr (.inr (.inr (.inr (va_up (va_up (va_up (va_up (va_up (va_up (va_up (va_up (fun _ => none) (Int32.toNatClampNeg 0) (some q5)) (Int32.toNatClampNeg 1) (some q11)) (Int32.toNatClampNeg 2) (some q17)) (Int32.toNatClampNeg 3) (some q23)) (Int32.toNatClampNeg 4) (some q29)) (Int32.toNatClampNeg 5) (some q35)) (Int32.toNatClampNeg 6) (some q41)) (Int32.toNatClampNeg 7) (some q47))))))) := hc_q1
  have hc_h : M51 h = some (.inr (2, [.ref q1])) := (hfr h n_h_q1).trans hc_h
  have hF : ∀ a, a ≠ h → a < sz → M51 a = M a := fun a h0 h1 => (hfr a (Nat.ne_of_lt (Nat.lt_of_lt_of_le h1 g_q1))).trans (hF a h0 h1)
  refine lv_iinc (v := 8) (lv' := [(1, .int 8), (0, .ref h)]) hx hb dX3_init_34 hl (k := 0) rfl (by decide) (by decide) rfl (fun ls hl => ?_)
  refine lv_goto (tgt := 15) hx hb dX3_init_37 (by decide) ?_
  refine lv_iload_n hx hb dX3_init_15 rfl (lv_at hl 0 rfl) ?_
  refine lv_bipush (v := 12) hx hb dX3_init_16 (by decide) ?_
  refine jic_gt (tgt := 40) hx hb dX3_init_18 (by decide) (fun c52 => absurd c52 (by decide)) (fun c52 => ?_)
  refine lv_aload_n hx hb dX3_init_21 rfl (lv_at hl 1 rfl) ?_
  refine xg hC hK hH flX3_11 hc_h rfl dX3_init_22 ?_
  refine lv_iload_n hx hb dX3_init_25 rfl (lv_at hl 0 rfl) ?_
  refine ynew hC hK hH nlX3_9 (Nat.le_of_ble_eq_true rfl) (Nat.le_of_ble_eq_true rfl) dX3_init_26 (fun q53 H M54 e_q53 hz nM_q53 nT_q53 hc_q53 hfr hN => ?_)
  have g_q53 : sz ≤ q53 := by rw [← hsz, e_q53]; exact hH.2.1.1
  have n_h_q53 : h ≠ q53 := neN hc_h nM_q53
  have n_q53_h : q53 ≠ h := Ne.symm n_h_q53
  have n_q1_q53 : q1 ≠ q53 := neN hc_q1 nM_q53
  have n_q53_q1 : q53 ≠ q1 := Ne.symm n_q1_q53
  have hH := hN
  have hc_q53 : M54 q53 = some (.inr (1, [.int 0, .int 0, .int 0, .int 0, .int 0, .int 0, .int 0, .null])) := hc_q53
  have hc_h : M54 h = some (.inr (2, [.ref q1])) := (hfr h n_h_q53).trans hc_h
  have hc_q1 : M54 q1 = some (.inl (kA 4, 13, .inr (.inr (.inr (.inr (va_up (va_up (va_up (va_up (va_up (va_up (va_up (va_up (fun _ => none) (Int32.toNatClampNeg 0) (some q5)) (Int32.toNatClampNeg 1) (some q11)) (Int32.toNatClampNeg 2) (some q17)) (Int32.toNatClampNeg 3) (some q23)) (Int32.toNatClampNeg 4) (some q29)) (Int32.toNatClampNeg 5) (some q35)) (Int32.toNatClampNeg 6) (some q41)) (Int32.toNatClampNeg 7) (some q47))))))) := (hfr q1 n_q1_q53).trans hc_q1
  have hF : ∀ a, a ≠ h → a < sz → M54 a = M a := fun a h0 h1 => (hfr a (Nat.ne_of_lt (Nat.lt_of_lt_of_le h1 g_q53))).trans (hF a h0 h1)
  refine lv_dup hx hb dX3_init_29 rfl ?_
  have lt_q53 : q53 < Array.size H := hH.1.ltM (by rw [hc_q53]; simp)
  have gH : sz ≤ Array.size H := by rw [← hsz]; exact hH.2.1.1
  have lt_h : h < Array.size H := hH.1.ltM (by rw [hc_h]; simp)
  have lt_q1 : q1 < Array.size H := hH.1.ltM (by rw [hc_q1]; simp)
  have lt_q53 : q53 < Array.size H := hH.1.ltM (by rw [hc_q53]; simp)
  refine goV hK hH (runIN (As := []) (rest := [.ref q53, .int 8, .ref q1]) hC hK hH (c_X2_init hc_q53 lt_q53) mlX3_17 ⟨⟨Nat.le_of_ble_eq_true rfl, Nat.le_of_ble_eq_true rfl⟩, Nat.le_of_ble_eq_true rfl, Nat.le_of_ble_eq_true rfl⟩ rfl hl.1 rfl (Nat.le_of_ble_eq_true rfl) dX3_init_30) (fun M55 T56 H locs hP hz hH => ?_)
  try dsimp only at hP
  obtain ⟨nM_q53, t_q53, hsub, hfr⟩ := hP
  have hc_h : M55 h = some (.inr (2, [.ref q1])) := (hfr h n_h_q53 lt_h).trans hc_h
  have hc_q1 : M55 q1 = some (.inl (kA 4, 13, .inr (.inr (.inr (.inr (va_up (va_up (va_up (va_up (va_up (va_up (va_up (va_up (fun _ => none) (Int32.toNatClampNeg 0) (some q5)) (Int32.toNatClampNeg 1) (some q11)) (Int32.toNatClampNeg 2) (some q17)) (Int32.toNatClampNeg 3) (some q23)) (Int32.toNatClampNeg 4) (some q29)) (Int32.toNatClampNeg 5) (some q35)) (Int32.toNatClampNeg 6) (some q41)) (Int32.toNatClampNeg 7) (some q47))))))) := (hfr q1 n_q1_q53 lt_q1).trans hc_q1
  have t_q5 : T56 q5 = some 1 := hsub _ _ t_q5
  have t_q11 : T56 q11 = some 1 := hsub _ _ t_q11
  have t_q17 : T56 q17 = some 1 := hsub _ _ t_q17
  have t_q23 : T56 q23 = some 1 := hsub _ _ t_q23
  have t_q29 : T56 q29 = some 1 := hsub _ _ t_q29
  have t_q35 : T56 q35 = some 1 := hsub _ _ t_q35
  have t_q41 : T56 q41 = some 1 := hsub _ _ t_q41
  have t_q47 : T56 q47 = some 1 := hsub _ _ t_q47
  have hTT : ∀ a t, T a = some t → T56 a = some t := fun a t h => hsub _ _ (hTT a t h)
  have hF : ∀ a, a ≠ h → a < sz → M55 a = M a := fun a h0 h1 => (hfr a (Nat.ne_of_lt (Nat.lt_of_lt_of_le h1 g_q53)) (Nat.lt_of_lt_of_le h1 gH)).trans (hF a h0 h1)
  refine yqst (ck := 4) (cv := 1) (v := q53) hC hK hH rfl rfl hc_q1 (let ⟨fs, h1, _⟩ := tcell hH t_q53 rfl; ⟨fs, h1⟩) (iIn (by decide) (by decide)) dX3_init_33 (fun H locs M57 hc_q1 hfr hH => ?_)
  have hc_q1 : M57 q1 = some (.inl (kA 4, 13, .inr (.inr (.inr (.inr (va_up (va_up (va_up (va_up (va_up (va_up (va_up (va_up (va_up (fun _ => none) (Int32.toNatClampNeg 0) (some q5)) (Int32.toNatClampNeg 1) (some q11)) (Int32.toNatClampNeg 2) (some q17)) (Int32.toNatClampNeg 3) (some q23)) (Int32.toNatClampNeg 4) (some q29)) (Int32.toNatClampNeg 5) (some q35)) (Int32.toNatClampNeg 6) (some q41)) (Int32.toNatClampNeg 7) (some q47)) (Int32.toNatClampNeg 8) (some q53))))))) := hc_q1
  have hc_h : M57 h = some (.inr (2, [.ref q1])) := (hfr h n_h_q1).trans hc_h
  have hF : ∀ a, a ≠ h → a < sz → M57 a = M a := fun a h0 h1 => (hfr a (Nat.ne_of_lt (Nat.lt_of_lt_of_le h1 g_q1))).trans (hF a h0 h1)
  refine lv_iinc (v := 9) (lv' := [(1, .int 9), (0, .ref h)]) hx hb dX3_init_34 hl (k := 0) rfl (by decide) (by decide) rfl (fun ls hl => ?_)
  refine lv_goto (tgt := 15) hx hb dX3_init_37 (by decide) ?_
  refine lv_iload_n hx hb dX3_init_15 rfl (lv_at hl 0 rfl) ?_
  refine lv_bipush (v := 12) hx hb dX3_init_16 (by decide) ?_
  refine jic_gt (tgt := 40) hx hb dX3_init_18 (by decide) (fun c58 => absurd c58 (by decide)) (fun c58 => ?_)
  refine lv_aload_n hx hb dX3_init_21 rfl (lv_at hl 1 rfl) ?_
  refine xg hC hK hH flX3_11 hc_h rfl dX3_init_22 ?_
  refine lv_iload_n hx hb dX3_init_25 rfl (lv_at hl 0 rfl) ?_
  refine ynew hC hK hH nlX3_9 (Nat.le_of_ble_eq_true rfl) (Nat.le_of_ble_eq_true rfl) dX3_init_26 (fun q59 H M60 e_q59 hz nM_q59 nT_q59 hc_q59 hfr hN => ?_)
  have g_q59 : sz ≤ q59 := by rw [← hsz, e_q59]; exact hH.2.1.1
  have n_h_q59 : h ≠ q59 := neN hc_h nM_q59
  have n_q59_h : q59 ≠ h := Ne.symm n_h_q59
  have n_q1_q59 : q1 ≠ q59 := neN hc_q1 nM_q59
  have n_q59_q1 : q59 ≠ q1 := Ne.symm n_q1_q59
  have hH := hN
  have hc_q59 : M60 q59 = some (.inr (1, [.int 0, .int 0, .int 0, .int 0, .int 0, .int 0, .int 0, .null])) := hc_q59
  have hc_h : M60 h = some (.inr (2, [.ref q1])) := (hfr h n_h_q59).trans hc_h
  have hc_q1 : M60 q1 = some (.inl (kA 4, 13, .inr (.inr (.inr (.inr (va_up (va_up (va_up (va_up (va_up (va_up (va_up (va_up (va_up (fun _ => none) (Int32.toNatClampNeg 0) (some q5)) (Int32.toNatClampNeg 1) (some q11)) (Int32.toNatClampNeg 2) (some q17)) (Int32.toNatClampNeg 3) (some q23)) (Int32.toNatClampNeg 4) (some q29)) (Int32.toNatClampNeg 5) (some q35)) (Int32.toNatClampNeg 6) (some q41)) (Int32.toNatClampNeg 7) (some q47)) (Int32.toNatClampNeg 8) (some q53))))))) := (hfr q1 n_q1_q59).trans hc_q1
  have hF : ∀ a, a ≠ h → a < sz → M60 a = M a := fun a h0 h1 => (hfr a (Nat.ne_of_lt (Nat.lt_of_lt_of_le h1 g_q59))).trans (hF a h0 h1)
  refine lv_dup hx hb dX3_init_29 rfl ?_
  have lt_q59 : q59 < Array.size H := hH.1.ltM (by rw [hc_q59]; simp)
  have gH : sz ≤ Array.size H := by rw [← hsz]; exact hH.2.1.1
  have lt_h : h < Array.size H := hH.1.ltM (by rw [hc_h]; simp)
  have lt_q1 : q1 < Array.size H := hH.1.ltM (by rw [hc_q1]; simp)
  have lt_q59 : q59 < Array.size H := hH.1.ltM (by rw [hc_q59]; simp)
  refine goV hK hH (runIN (As := []) (rest := [.ref q59, .int 9, .ref q1]) hC hK hH (c_X2_init hc_q59 lt_q59) mlX3_17 ⟨⟨Nat.le_of_ble_eq_true rfl, Nat.le_of_ble_eq_true rfl⟩, Nat.le_of_ble_eq_true rfl, Nat.le_of_ble_eq_true rfl⟩ rfl hl.1 rfl (Nat.le_of_ble_eq_true rfl) dX3_init_30) (fun M61 T62 H locs hP hz hH => ?_)
  try dsimp only at hP
  obtain ⟨nM_q59, t_q59, hsub, hfr⟩ := hP
  have hc_h : M61 h = some (.inr (2, [.ref q1])) := (hfr h n_h_q59 lt_h).trans hc_h
  have hc_q1 : M61 q1 = some (.inl (kA 4, 13, .inr (.inr (.inr (.inr (va_up (va_up (va_up (va_up (va_up (va_up (va_up (va_up (va_up (fun _ => none) (Int32.toNatClampNeg 0) (some q5)) (Int32.toNatClampNeg 1) (some q11)) (Int32.toNatClampNeg 2) (some q17)) (Int32.toNatClampNeg 3) (some q23)) (Int32.toNatClampNeg 4) (some q29)) (Int32.toNatClampNeg 5) (some q35)) (Int32.toNatClampNeg 6) (some q41)) (Int32.toNatClampNeg 7) (some q47)) (Int32.toNatClampNeg 8) (some q53))))))) := (hfr q1 n_q1_q59 lt_q1).trans hc_q1
  have t_q5 : T62 q5 = some 1 := hsub _ _ t_q5
  have t_q11 : T62 q11 = some 1 := hsub _ _ t_q11
  have t_q17 : T62 q17 = some 1 := hsub _ _ t_q17
  have t_q23 : T62 q23 = some 1 := hsub _ _ t_q23
  have t_q29 : T62 q29 = some 1 := hsub _ _ t_q29
  have t_q35 : T62 q35 = some 1 := hsub _ _ t_q35
  have t_q41 : T62 q41 = some 1 := hsub _ _ t_q41
  have t_q47 : T62 q47 = some 1 := hsub _ _ t_q47
  have t_q53 : T62 q53 = some 1 := hsub _ _ t_q53
  have hTT : ∀ a t, T a = some t → T62 a = some t := fun a t h => hsub _ _ (hTT a t h)
  have hF : ∀ a, a ≠ h → a < sz → M61 a = M a := fun a h0 h1 => (hfr a (Nat.ne_of_lt (Nat.lt_of_lt_of_le h1 g_q59)) (Nat.lt_of_lt_of_le h1 gH)).trans (hF a h0 h1)
  refine yqst (ck := 4) (cv := 1) (v := q59) hC hK hH rfl rfl hc_q1 (let ⟨fs, h1, _⟩ := tcell hH t_q59 rfl; ⟨fs, h1⟩) (iIn (by decide) (by decide)) dX3_init_33 (fun H locs M63 hc_q1 hfr hH => ?_)
  have hc_q1 : M63 q1 = some (.inl (kA 4, 13, .inr (.inr (.inr (.inr (va_up (va_up (va_up (va_up (va_up (va_up (va_up (va_up (va_up (va_up (fun _ => none) (Int32.toNatClampNeg 0) (some q5)) (Int32.toNatClampNeg 1) (some q11)) (Int32.toNatClampNeg 2) (some q17)) (Int32.toNatClampNeg 3) (some q23)) (Int32.toNatClampNeg 4) (some q29)) (Int32.toNatClampNeg 5) (some q35)) (Int32.toNatClampNeg 6) (some q41)) (Int32.toNatClampNeg 7) (some q47)) (Int32.toNatClampNeg 8) (some q53)) (Int32.toNatClampNeg 9) (some q59))))))) := hc_q1
  have hc_h : M63 h = some (.inr (2, [.ref q1])) := (hfr h n_h_q1).trans hc_h
  have hF : ∀ a, a ≠ h → a < sz → M63 a = M a := fun a h0 h1 => (hfr a (Nat.ne_of_lt (Nat.lt_of_lt_of_le h1 g_q1))).trans (hF a h0 h1)
  refine lv_iinc (v := 10) (lv' := [(1, .int 10), (0, .ref h)]) hx hb dX3_init_34 hl (k := 0) rfl (by decide) (by decide) rfl (fun ls hl => ?_)
  refine lv_goto (tgt := 15) hx hb dX3_init_37 (by decide) ?_
  refine lv_iload_n hx hb dX3_init_15 rfl (lv_at hl 0 rfl) ?_
  refine lv_bipush (v := 12) hx hb dX3_init_16 (by decide) ?_
  refine jic_gt (tgt := 40) hx hb dX3_init_18 (by decide) (fun c64 => absurd c64 (by decide)) (fun c64 => ?_)
  refine lv_aload_n hx hb dX3_init_21 rfl (lv_at hl 1 rfl) ?_
  refine xg hC hK hH flX3_11 hc_h rfl dX3_init_22 ?_
  refine lv_iload_n hx hb dX3_init_25 rfl (lv_at hl 0 rfl) ?_
  refine ynew hC hK hH nlX3_9 (Nat.le_of_ble_eq_true rfl) (Nat.le_of_ble_eq_true rfl) dX3_init_26 (fun q65 H M66 e_q65 hz nM_q65 nT_q65 hc_q65 hfr hN => ?_)
  have g_q65 : sz ≤ q65 := by rw [← hsz, e_q65]; exact hH.2.1.1
  have n_h_q65 : h ≠ q65 := neN hc_h nM_q65
  have n_q65_h : q65 ≠ h := Ne.symm n_h_q65
  have n_q1_q65 : q1 ≠ q65 := neN hc_q1 nM_q65
  have n_q65_q1 : q65 ≠ q1 := Ne.symm n_q1_q65
  have hH := hN
  have hc_q65 : M66 q65 = some (.inr (1, [.int 0, .int 0, .int 0, .int 0, .int 0, .int 0, .int 0, .null])) := hc_q65
  have hc_h : M66 h = some (.inr (2, [.ref q1])) := (hfr h n_h_q65).trans hc_h
  have hc_q1 : M66 q1 = some (.inl (kA 4, 13, .inr (.inr (.inr (.inr (va_up (va_up (va_up (va_up (va_up (va_up (va_up (va_up (va_up (va_up (fun _ => none) (Int32.toNatClampNeg 0) (some q5)) (Int32.toNatClampNeg 1) (some q11)) (Int32.toNatClampNeg 2) (some q17)) (Int32.toNatClampNeg 3) (some q23)) (Int32.toNatClampNeg 4) (some q29)) (Int32.toNatClampNeg 5) (some q35)) (Int32.toNatClampNeg 6) (some q41)) (Int32.toNatClampNeg 7) (some q47)) (Int32.toNatClampNeg 8) (some q53)) (Int32.toNatClampNeg 9) (some q59))))))) := (hfr q1 n_q1_q65).trans hc_q1
  have hF : ∀ a, a ≠ h → a < sz → M66 a = M a := fun a h0 h1 => (hfr a (Nat.ne_of_lt (Nat.lt_of_lt_of_le h1 g_q65))).trans (hF a h0 h1)
  refine lv_dup hx hb dX3_init_29 rfl ?_
  have lt_q65 : q65 < Array.size H := hH.1.ltM (by rw [hc_q65]; simp)
  have gH : sz ≤ Array.size H := by rw [← hsz]; exact hH.2.1.1
  have lt_h : h < Array.size H := hH.1.ltM (by rw [hc_h]; simp)
  have lt_q1 : q1 < Array.size H := hH.1.ltM (by rw [hc_q1]; simp)
  have lt_q65 : q65 < Array.size H := hH.1.ltM (by rw [hc_q65]; simp)
  refine goV hK hH (runIN (As := []) (rest := [.ref q65, .int 10, .ref q1]) hC hK hH (c_X2_init hc_q65 lt_q65) mlX3_17 ⟨⟨Nat.le_of_ble_eq_true rfl, Nat.le_of_ble_eq_true rfl⟩, Nat.le_of_ble_eq_true rfl, Nat.le_of_ble_eq_true rfl⟩ rfl hl.1 rfl (Nat.le_of_ble_eq_true rfl) dX3_init_30) (fun M67 T68 H locs hP hz hH => ?_)
  try dsimp only at hP
  obtain ⟨nM_q65, t_q65, hsub, hfr⟩ := hP
  have hc_h : M67 h = some (.inr (2, [.ref q1])) := (hfr h n_h_q65 lt_h).trans hc_h
  have hc_q1 : M67 q1 = some (.inl (kA 4, 13, .inr (.inr (.inr (.inr (va_up (va_up (va_up (va_up (va_up (va_up (va_up (va_up (va_up (va_up (fun _ => none) (Int32.toNatClampNeg 0) (some q5)) (Int32.toNatClampNeg 1) (some q11)) (Int32.toNatClampNeg 2) (some q17)) (Int32.toNatClampNeg 3) (some q23)) (Int32.toNatClampNeg 4) (some q29)) (Int32.toNatClampNeg 5) (some q35)) (Int32.toNatClampNeg 6) (some q41)) (Int32.toNatClampNeg 7) (some q47)) (Int32.toNatClampNeg 8) (some q53)) (Int32.toNatClampNeg 9) (some q59))))))) := (hfr q1 n_q1_q65 lt_q1).trans hc_q1
  have t_q5 : T68 q5 = some 1 := hsub _ _ t_q5
  have t_q11 : T68 q11 = some 1 := hsub _ _ t_q11
  have t_q17 : T68 q17 = some 1 := hsub _ _ t_q17
  have t_q23 : T68 q23 = some 1 := hsub _ _ t_q23
  have t_q29 : T68 q29 = some 1 := hsub _ _ t_q29
  have t_q35 : T68 q35 = some 1 := hsub _ _ t_q35
  have t_q41 : T68 q41 = some 1 := hsub _ _ t_q41
  have t_q47 : T68 q47 = some 1 := hsub _ _ t_q47
  have t_q53 : T68 q53 = some 1 := hsub _ _ t_q53
  have t_q59 : T68 q59 = some 1 := hsub _ _ t_q59
  have hTT : ∀ a t, T a = some t → T68 a = some t := fun a t h => hsub _ _ (hTT a t h)
  have hF : ∀ a, a ≠ h → a < sz → M67 a = M a := fun a h0 h1 => (hfr a (Nat.ne_of_lt (Nat.lt_of_lt_of_le h1 g_q65)) (Nat.lt_of_lt_of_le h1 gH)).trans (hF a h0 h1)
  refine yqst (ck := 4) (cv := 1) (v := q65) hC hK hH rfl rfl hc_q1 (let ⟨fs, h1, _⟩ := tcell hH t_q65 rfl; ⟨fs, h1⟩) (iIn (by decide) (by decide)) dX3_init_33 (fun H locs M69 hc_q1 hfr hH => ?_)
  have hc_q1 : M69 q1 = some (.inl (kA 4, 13, .inr (.inr (.inr (.inr (va_up (va_up (va_up (va_up (va_up (va_up (va_up (va_up (va_up (va_up (va_up (fun _ => none) (Int32.toNatClampNeg 0) (some q5)) (Int32.toNatClampNeg 1) (some q11)) (Int32.toNatClampNeg 2) (some q17)) (Int32.toNatClampNeg 3) (some q23)) (Int32.toNatClampNeg 4) (some q29)) (Int32.toNatClampNeg 5) (some q35)) (Int32.toNatClampNeg 6) (some q41)) (Int32.toNatClampNeg 7) (some q47)) (Int32.toNatClampNeg 8) (some q53)) (Int32.toNatClampNeg 9) (some q59)) (Int32.toNatClampNeg 10) (some q65))))))) := hc_q1
  have hc_h : M69 h = some (.inr (2, [.ref q1])) := (hfr h n_h_q1).trans hc_h
  have hF : ∀ a, a ≠ h → a < sz → M69 a = M a := fun a h0 h1 => (hfr a (Nat.ne_of_lt (Nat.lt_of_lt_of_le h1 g_q1))).trans (hF a h0 h1)
  refine lv_iinc (v := 11) (lv' := [(1, .int 11), (0, .ref h)]) hx hb dX3_init_34 hl (k := 0) rfl (by decide) (by decide) rfl (fun ls hl => ?_)
  refine lv_goto (tgt := 15) hx hb dX3_init_37 (by decide) ?_
  refine lv_iload_n hx hb dX3_init_15 rfl (lv_at hl 0 rfl) ?_
  refine lv_bipush (v := 12) hx hb dX3_init_16 (by decide) ?_
  refine jic_gt (tgt := 40) hx hb dX3_init_18 (by decide) (fun c70 => absurd c70 (by decide)) (fun c70 => ?_)
  refine lv_aload_n hx hb dX3_init_21 rfl (lv_at hl 1 rfl) ?_
  refine xg hC hK hH flX3_11 hc_h rfl dX3_init_22 ?_
  refine lv_iload_n hx hb dX3_init_25 rfl (lv_at hl 0 rfl) ?_
  refine ynew hC hK hH nlX3_9 (Nat.le_of_ble_eq_true rfl) (Nat.le_of_ble_eq_true rfl) dX3_init_26 (fun q71 H M72 e_q71 hz nM_q71 nT_q71 hc_q71 hfr hN => ?_)
  have g_q71 : sz ≤ q71 := by rw [← hsz, e_q71]; exact hH.2.1.1
  have n_h_q71 : h ≠ q71 := neN hc_h nM_q71
  have n_q71_h : q71 ≠ h := Ne.symm n_h_q71
  have n_q1_q71 : q1 ≠ q71 := neN hc_q1 nM_q71
  have n_q71_q1 : q71 ≠ q1 := Ne.symm n_q1_q71
  have hH := hN
  have hc_q71 : M72 q71 = some (.inr (1, [.int 0, .int 0, .int 0, .int 0, .int 0, .int 0, .int 0, .null])) := hc_q71
  have hc_h : M72 h = some (.inr (2, [.ref q1])) := (hfr h n_h_q71).trans hc_h
  have hc_q1 : M72 q1 = some (.inl (kA 4, 13, .inr (.inr (.inr (.inr (va_up (va_up (va_up (va_up (va_up (va_up (va_up (va_up (va_up (va_up (va_up (fun _ => none) (Int32.toNatClampNeg 0) (some q5)) (Int32.toNatClampNeg 1) (some q11)) (Int32.toNatClampNeg 2) (some q17)) (Int32.toNatClampNeg 3) (some q23)) (Int32.toNatClampNeg 4) (some q29)) (Int32.toNatClampNeg 5) (some q35)) (Int32.toNatClampNeg 6) (some q41)) (Int32.toNatClampNeg 7) (some q47)) (Int32.toNatClampNeg 8) (some q53)) (Int32.toNatClampNeg 9) (some q59)) (Int32.toNatClampNeg 10) (some q65))))))) := (hfr q1 n_q1_q71).trans hc_q1
  have hF : ∀ a, a ≠ h → a < sz → M72 a = M a := fun a h0 h1 => (hfr a (Nat.ne_of_lt (Nat.lt_of_lt_of_le h1 g_q71))).trans (hF a h0 h1)
  refine lv_dup hx hb dX3_init_29 rfl ?_
  have lt_q71 : q71 < Array.size H := hH.1.ltM (by rw [hc_q71]; simp)
  have gH : sz ≤ Array.size H := by rw [← hsz]; exact hH.2.1.1
  have lt_h : h < Array.size H := hH.1.ltM (by rw [hc_h]; simp)
  have lt_q1 : q1 < Array.size H := hH.1.ltM (by rw [hc_q1]; simp)
  have lt_q71 : q71 < Array.size H := hH.1.ltM (by rw [hc_q71]; simp)
  refine goV hK hH (runIN (As := []) (rest := [.ref q71, .int 11, .ref q1]) hC hK hH (c_X2_init hc_q71 lt_q71) mlX3_17 ⟨⟨Nat.le_of_ble_eq_true rfl, Nat.le_of_ble_eq_true rfl⟩, Nat.le_of_ble_eq_true rfl, Nat.le_of_ble_eq_true rfl⟩ rfl hl.1 rfl (Nat.le_of_ble_eq_true rfl) dX3_init_30) (fun M73 T74 H locs hP hz hH => ?_)
  try dsimp only at hP
  obtain ⟨nM_q71, t_q71, hsub, hfr⟩ := hP
  have hc_h : M73 h = some (.inr (2, [.ref q1])) := (hfr h n_h_q71 lt_h).trans hc_h
  have hc_q1 : M73 q1 = some (.inl (kA 4, 13, .inr (.inr (.inr (.inr (va_up (va_up (va_up (va_up (va_up (va_up (va_up (va_up (va_up (va_up (va_up (fun _ => none) (Int32.toNatClampNeg 0) (some q5)) (Int32.toNatClampNeg 1) (some q11)) (Int32.toNatClampNeg 2) (some q17)) (Int32.toNatClampNeg 3) (some q23)) (Int32.toNatClampNeg 4) (some q29)) (Int32.toNatClampNeg 5) (some q35)) (Int32.toNatClampNeg 6) (some q41)) (Int32.toNatClampNeg 7) (some q47)) (Int32.toNatClampNeg 8) (some q53)) (Int32.toNatClampNeg 9) (some q59)) (Int32.toNatClampNeg 10) (some q65))))))) := (hfr q1 n_q1_q71 lt_q1).trans hc_q1
  have t_q5 : T74 q5 = some 1 := hsub _ _ t_q5
  have t_q11 : T74 q11 = some 1 := hsub _ _ t_q11
  have t_q17 : T74 q17 = some 1 := hsub _ _ t_q17
  have t_q23 : T74 q23 = some 1 := hsub _ _ t_q23
  have t_q29 : T74 q29 = some 1 := hsub _ _ t_q29
  have t_q35 : T74 q35 = some 1 := hsub _ _ t_q35
  have t_q41 : T74 q41 = some 1 := hsub _ _ t_q41
  have t_q47 : T74 q47 = some 1 := hsub _ _ t_q47
  have t_q53 : T74 q53 = some 1 := hsub _ _ t_q53
  have t_q59 : T74 q59 = some 1 := hsub _ _ t_q59
  have t_q65 : T74 q65 = some 1 := hsub _ _ t_q65
  have hTT : ∀ a t, T a = some t → T74 a = some t := fun a t h => hsub _ _ (hTT a t h)
  have hF : ∀ a, a ≠ h → a < sz → M73 a = M a := fun a h0 h1 => (hfr a (Nat.ne_of_lt (Nat.lt_of_lt_of_le h1 g_q71)) (Nat.lt_of_lt_of_le h1 gH)).trans (hF a h0 h1)
  refine yqst (ck := 4) (cv := 1) (v := q71) hC hK hH rfl rfl hc_q1 (let ⟨fs, h1, _⟩ := tcell hH t_q71 rfl; ⟨fs, h1⟩) (iIn (by decide) (by decide)) dX3_init_33 (fun H locs M75 hc_q1 hfr hH => ?_)
  have hc_q1 : M75 q1 = some (.inl (kA 4, 13, .inr (.inr (.inr (.inr (va_up (va_up (va_up (va_up (va_up (va_up (va_up (va_up (va_up (va_up (va_up (va_up (fun _ => none) (Int32.toNatClampNeg 0) (some q5)) (Int32.toNatClampNeg 1) (some q11)) (Int32.toNatClampNeg 2) (some q17)) (Int32.toNatClampNeg 3) (some q23)) (Int32.toNatClampNeg 4) (some q29)) (Int32.toNatClampNeg 5) (some q35)) (Int32.toNatClampNeg 6) (some q41)) (Int32.toNatClampNeg 7) (some q47)) (Int32.toNatClampNeg 8) (some q53)) (Int32.toNatClampNeg 9) (some q59)) (Int32.toNatClampNeg 10) (some q65)) (Int32.toNatClampNeg 11) (some q71))))))) := hc_q1
  have hc_h : M75 h = some (.inr (2, [.ref q1])) := (hfr h n_h_q1).trans hc_h
  have hF : ∀ a, a ≠ h → a < sz → M75 a = M a := fun a h0 h1 => (hfr a (Nat.ne_of_lt (Nat.lt_of_lt_of_le h1 g_q1))).trans (hF a h0 h1)
  refine lv_iinc (v := 12) (lv' := [(1, .int 12), (0, .ref h)]) hx hb dX3_init_34 hl (k := 0) rfl (by decide) (by decide) rfl (fun ls hl => ?_)
  refine lv_goto (tgt := 15) hx hb dX3_init_37 (by decide) ?_
  refine lv_iload_n hx hb dX3_init_15 rfl (lv_at hl 0 rfl) ?_
  refine lv_bipush (v := 12) hx hb dX3_init_16 (by decide) ?_
  refine jic_gt (tgt := 40) hx hb dX3_init_18 (by decide) (fun c76 => absurd c76 (by decide)) (fun c76 => ?_)
  refine lv_aload_n hx hb dX3_init_21 rfl (lv_at hl 1 rfl) ?_
  refine xg hC hK hH flX3_11 hc_h rfl dX3_init_22 ?_
  refine lv_iload_n hx hb dX3_init_25 rfl (lv_at hl 0 rfl) ?_
  refine ynew hC hK hH nlX3_9 (Nat.le_of_ble_eq_true rfl) (Nat.le_of_ble_eq_true rfl) dX3_init_26 (fun q77 H M78 e_q77 hz nM_q77 nT_q77 hc_q77 hfr hN => ?_)
  have g_q77 : sz ≤ q77 := by rw [← hsz, e_q77]; exact hH.2.1.1
  have n_h_q77 : h ≠ q77 := neN hc_h nM_q77
  have n_q77_h : q77 ≠ h := Ne.symm n_h_q77
  have n_q1_q77 : q1 ≠ q77 := neN hc_q1 nM_q77
  have n_q77_q1 : q77 ≠ q1 := Ne.symm n_q1_q77
  have hH := hN
  have hc_q77 : M78 q77 = some (.inr (1, [.int 0, .int 0, .int 0, .int 0, .int 0, .int 0, .int 0, .null])) := hc_q77
  have hc_h : M78 h = some (.inr (2, [.ref q1])) := (hfr h n_h_q77).trans hc_h
  have hc_q1 : M78 q1 = some (.inl (kA 4, 13, .inr (.inr (.inr (.inr (va_up (va_up (va_up (va_up (va_up (va_up (va_up (va_up (va_up (va_up (va_up (va_up (fun _ => none) (Int32.toNatClampNeg 0) (some q5)) (Int32.toNatClampNeg 1) (some q11)) (Int32.toNatClampNeg 2) (some q17)) (Int32.toNatClampNeg 3) (some q23)) (Int32.toNatClampNeg 4) (some q29)) (Int32.toNatClampNeg 5) (some q35)) (Int32.toNatClampNeg 6) (some q41)) (Int32.toNatClampNeg 7) (some q47)) (Int32.toNatClampNeg 8) (some q53)) (Int32.toNatClampNeg 9) (some q59)) (Int32.toNatClampNeg 10) (some q65)) (Int32.toNatClampNeg 11) (some q71))))))) := (hfr q1 n_q1_q77).trans hc_q1
  have hF : ∀ a, a ≠ h → a < sz → M78 a = M a := fun a h0 h1 => (hfr a (Nat.ne_of_lt (Nat.lt_of_lt_of_le h1 g_q77))).trans (hF a h0 h1)
  refine lv_dup hx hb dX3_init_29 rfl ?_
  have lt_q77 : q77 < Array.size H := hH.1.ltM (by rw [hc_q77]; simp)
  have gH : sz ≤ Array.size H := by rw [← hsz]; exact hH.2.1.1
  have lt_h : h < Array.size H := hH.1.ltM (by rw [hc_h]; simp)
  have lt_q1 : q1 < Array.size H := hH.1.ltM (by rw [hc_q1]; simp)
  have lt_q77 : q77 < Array.size H := hH.1.ltM (by rw [hc_q77]; simp)
  refine goV hK hH (runIN (As := []) (rest := [.ref q77, .int 12, .ref q1]) hC hK hH (c_X2_init hc_q77 lt_q77) mlX3_17 ⟨⟨Nat.le_of_ble_eq_true rfl, Nat.le_of_ble_eq_true rfl⟩, Nat.le_of_ble_eq_true rfl, Nat.le_of_ble_eq_true rfl⟩ rfl hl.1 rfl (Nat.le_of_ble_eq_true rfl) dX3_init_30) (fun M79 T80 H locs hP hz hH => ?_)
  try dsimp only at hP
  obtain ⟨nM_q77, t_q77, hsub, hfr⟩ := hP
  have hc_h : M79 h = some (.inr (2, [.ref q1])) := (hfr h n_h_q77 lt_h).trans hc_h
  have hc_q1 : M79 q1 = some (.inl (kA 4, 13, .inr (.inr (.inr (.inr (va_up (va_up (va_up (va_up (va_up (va_up (va_up (va_up (va_up (va_up (va_up (va_up (fun _ => none) (Int32.toNatClampNeg 0) (some q5)) (Int32.toNatClampNeg 1) (some q11)) (Int32.toNatClampNeg 2) (some q17)) (Int32.toNatClampNeg 3) (some q23)) (Int32.toNatClampNeg 4) (some q29)) (Int32.toNatClampNeg 5) (some q35)) (Int32.toNatClampNeg 6) (some q41)) (Int32.toNatClampNeg 7) (some q47)) (Int32.toNatClampNeg 8) (some q53)) (Int32.toNatClampNeg 9) (some q59)) (Int32.toNatClampNeg 10) (some q65)) (Int32.toNatClampNeg 11) (some q71))))))) := (hfr q1 n_q1_q77 lt_q1).trans hc_q1
  have t_q5 : T80 q5 = some 1 := hsub _ _ t_q5
  have t_q11 : T80 q11 = some 1 := hsub _ _ t_q11
  have t_q17 : T80 q17 = some 1 := hsub _ _ t_q17
  have t_q23 : T80 q23 = some 1 := hsub _ _ t_q23
  have t_q29 : T80 q29 = some 1 := hsub _ _ t_q29
  have t_q35 : T80 q35 = some 1 := hsub _ _ t_q35
  have t_q41 : T80 q41 = some 1 := hsub _ _ t_q41
  have t_q47 : T80 q47 = some 1 := hsub _ _ t_q47
  have t_q53 : T80 q53 = some 1 := hsub _ _ t_q53
  have t_q59 : T80 q59 = some 1 := hsub _ _ t_q59
  have t_q65 : T80 q65 = some 1 := hsub _ _ t_q65
  have t_q71 : T80 q71 = some 1 := hsub _ _ t_q71
  have hTT : ∀ a t, T a = some t → T80 a = some t := fun a t h => hsub _ _ (hTT a t h)
  have hF : ∀ a, a ≠ h → a < sz → M79 a = M a := fun a h0 h1 => (hfr a (Nat.ne_of_lt (Nat.lt_of_lt_of_le h1 g_q77)) (Nat.lt_of_lt_of_le h1 gH)).trans (hF a h0 h1)
  refine yqst (ck := 4) (cv := 1) (v := q77) hC hK hH rfl rfl hc_q1 (let ⟨fs, h1, _⟩ := tcell hH t_q77 rfl; ⟨fs, h1⟩) (iIn (by decide) (by decide)) dX3_init_33 (fun H locs M81 hc_q1 hfr hH => ?_)
  have hc_q1 : M81 q1 = some (.inl (kA 4, 13, .inr (.inr (.inr (.inr (va_up (va_up (va_up (va_up (va_up (va_up (va_up (va_up (va_up (va_up (va_up (va_up (va_up (fun _ => none) (Int32.toNatClampNeg 0) (some q5)) (Int32.toNatClampNeg 1) (some q11)) (Int32.toNatClampNeg 2) (some q17)) (Int32.toNatClampNeg 3) (some q23)) (Int32.toNatClampNeg 4) (some q29)) (Int32.toNatClampNeg 5) (some q35)) (Int32.toNatClampNeg 6) (some q41)) (Int32.toNatClampNeg 7) (some q47)) (Int32.toNatClampNeg 8) (some q53)) (Int32.toNatClampNeg 9) (some q59)) (Int32.toNatClampNeg 10) (some q65)) (Int32.toNatClampNeg 11) (some q71)) (Int32.toNatClampNeg 12) (some q77))))))) := hc_q1
  have hc_h : M81 h = some (.inr (2, [.ref q1])) := (hfr h n_h_q1).trans hc_h
  have hF : ∀ a, a ≠ h → a < sz → M81 a = M a := fun a h0 h1 => (hfr a (Nat.ne_of_lt (Nat.lt_of_lt_of_le h1 g_q1))).trans (hF a h0 h1)
  refine lv_iinc (v := 13) (lv' := [(1, .int 13), (0, .ref h)]) hx hb dX3_init_34 hl (k := 0) rfl (by decide) (by decide) rfl (fun ls hl => ?_)
  refine lv_goto (tgt := 15) hx hb dX3_init_37 (by decide) ?_
  refine lv_iload_n hx hb dX3_init_15 rfl (lv_at hl 0 rfl) ?_
  refine lv_bipush (v := 12) hx hb dX3_init_16 (by decide) ?_
  refine jic_gt (tgt := 40) hx hb dX3_init_18 (by decide) (fun c82 => ?_) (fun c82 => absurd c82 (by decide))
  have hq : ∀ j, j < 13 → ∃ q, (va_up (va_up (va_up (va_up (va_up (va_up (va_up (va_up (va_up (va_up (va_up (va_up (va_up (fun _ => none) (Int32.toNatClampNeg 0) (some q5)) (Int32.toNatClampNeg 1) (some q11)) (Int32.toNatClampNeg 2) (some q17)) (Int32.toNatClampNeg 3) (some q23)) (Int32.toNatClampNeg 4) (some q29)) (Int32.toNatClampNeg 5) (some q35)) (Int32.toNatClampNeg 6) (some q41)) (Int32.toNatClampNeg 7) (some q47)) (Int32.toNatClampNeg 8) (some q53)) (Int32.toNatClampNeg 9) (some q59)) (Int32.toNatClampNeg 10) (some q65)) (Int32.toNatClampNeg 11) (some q71)) (Int32.toNatClampNeg 12) (some q77)) j = some q ∧ T80 q = some 1 := by
    intro j hj
    rcases (show j = 0 ∨ j = 1 ∨ j = 2 ∨ j = 3 ∨ j = 4 ∨ j = 5 ∨ j = 6 ∨ j = 7 ∨ j = 8 ∨ j = 9 ∨ j = 10 ∨ j = 11 ∨ j = 12 by omega) with rfl | rfl | rfl | rfl | rfl | rfl | rfl | rfl | rfl | rfl | rfl | rfl | rfl
    · exact ⟨q5, rfl, t_q5⟩
    · exact ⟨q11, rfl, t_q11⟩
    · exact ⟨q17, rfl, t_q17⟩
    · exact ⟨q23, rfl, t_q23⟩
    · exact ⟨q29, rfl, t_q29⟩
    · exact ⟨q35, rfl, t_q35⟩
    · exact ⟨q41, rfl, t_q41⟩
    · exact ⟨q47, rfl, t_q47⟩
    · exact ⟨q53, rfl, t_q53⟩
    · exact ⟨q59, rfl, t_q59⟩
    · exact ⟨q65, rfl, t_q65⟩
    · exact ⟨q71, rfl, t_q71⟩
    · exact ⟨q77, rfl, t_q77⟩
  obtain ⟨M83, T84, nM_q1, hfr, t_q1, hfT, hsub, hH⟩ := hH.re2 (τ := 8) hc_q1 (conf_q rfl (fun j hj => let ⟨q, h1, h2⟩ := hq j hj; ⟨q, h1, by rw [upN _ _ (fun z => by rw [z, hH.1.TN (by rw [hc_q1]; simp)] at h2; cases h2)]; exact h2⟩))
  have hc_h : M83 h = some (.inr (2, [.ref q1])) := (hfr h n_h_q1).trans hc_h
  have t_q5 : T84 q5 = some 1 := hsub _ _ t_q5
  have t_q11 : T84 q11 = some 1 := hsub _ _ t_q11
  have t_q17 : T84 q17 = some 1 := hsub _ _ t_q17
  have t_q23 : T84 q23 = some 1 := hsub _ _ t_q23
  have t_q29 : T84 q29 = some 1 := hsub _ _ t_q29
  have t_q35 : T84 q35 = some 1 := hsub _ _ t_q35
  have t_q41 : T84 q41 = some 1 := hsub _ _ t_q41
  have t_q47 : T84 q47 = some 1 := hsub _ _ t_q47
  have t_q53 : T84 q53 = some 1 := hsub _ _ t_q53
  have t_q59 : T84 q59 = some 1 := hsub _ _ t_q59
  have t_q65 : T84 q65 = some 1 := hsub _ _ t_q65
  have t_q71 : T84 q71 = some 1 := hsub _ _ t_q71
  have t_q77 : T84 q77 = some 1 := hsub _ _ t_q77
  have hTT : ∀ a t, T a = some t → T84 a = some t := fun a t h => hsub _ _ (hTT a t h)
  have hF : ∀ a, a ≠ h → a < sz → M83 a = M a := fun a h0 h1 => (hfr a (Nat.ne_of_lt (Nat.lt_of_lt_of_le h1 g_q1))).trans (hF a h0 h1)
  obtain ⟨M85, T86, nM_h, hfr, t_h, hfT, hsub, hH⟩ := hH.re2 (τ := 9) hc_h (conf_o rfl ⟨okR (by rw [upN _ _ (fun z => by rw [z] at t_q1; rw [hH.1.TN (by rw [hc_h]; simp)] at t_q1; cases t_q1)]; exact t_q1), trivial⟩)
  have t_q5 : T86 q5 = some 1 := hsub _ _ t_q5
  have t_q11 : T86 q11 = some 1 := hsub _ _ t_q11
  have t_q17 : T86 q17 = some 1 := hsub _ _ t_q17
  have t_q23 : T86 q23 = some 1 := hsub _ _ t_q23
  have t_q29 : T86 q29 = some 1 := hsub _ _ t_q29
  have t_q35 : T86 q35 = some 1 := hsub _ _ t_q35
  have t_q41 : T86 q41 = some 1 := hsub _ _ t_q41
  have t_q47 : T86 q47 = some 1 := hsub _ _ t_q47
  have t_q53 : T86 q53 = some 1 := hsub _ _ t_q53
  have t_q59 : T86 q59 = some 1 := hsub _ _ t_q59
  have t_q65 : T86 q65 = some 1 := hsub _ _ t_q65
  have t_q71 : T86 q71 = some 1 := hsub _ _ t_q71
  have t_q77 : T86 q77 = some 1 := hsub _ _ t_q77
  have t_q1 : T86 q1 = some 8 := hsub _ _ t_q1
  have hTT : ∀ a t, T a = some t → T86 a = some t := fun a t h => hsub _ _ (hTT a t h)
  have hF : ∀ a, a ≠ h → a < sz → M85 a = M a := fun a h0 h1 => (hfr a h0).trans (hF a h0 h1)
  exact ret_v hC hr hlk hK hH (⟨nM_h, t_h, hTT, hF⟩) (Nat.le_of_ble_eq_true rfl) (Nat.le_of_ble_eq_true rfl) dX3_init_40
end
section
theorem dX4_init_0 : decode cX4_init 0 = .ok (.aload_n 0, 1) := by decide +kernel
theorem dX4_init_1 : decode cX4_init 1 = .ok (.invokespecial 3, 3) := by decide +kernel
theorem dX4_init_4 : decode cX4_init 4 = .ok (.aload_n 0, 1) := by decide +kernel
theorem dX4_init_5 : decode cX4_init 5 = .ok (.iconst 5, 1) := by decide +kernel
theorem dX4_init_6 : decode cX4_init 6 = .ok (.newarray .int, 2) := by decide +kernel
theorem dX4_init_8 : decode cX4_init 8 = .ok (.putfield 9, 3) := by decide +kernel
theorem dX4_init_11 : decode cX4_init 11 = .ok (.aload_n 0, 1) := by decide +kernel
theorem dX4_init_12 : decode cX4_init 12 = .ok (.getstatic 15, 3) := by decide +kernel
theorem dX4_init_15 : decode cX4_init 15 = .ok (.putfield 21, 3) := by decide +kernel
theorem dX4_init_18 : decode cX4_init 18 = .ok (.aload_n 0, 1) := by decide +kernel
theorem dX4_init_19 : decode cX4_init 19 = .ok (.iconst 0, 1) := by decide +kernel
theorem dX4_init_20 : decode cX4_init 20 = .ok (.newarray .byte, 2) := by decide +kernel
theorem dX4_init_22 : decode cX4_init 22 = .ok (.putfield 24, 3) := by decide +kernel
theorem dX4_init_25 : decode cX4_init 25 = .ok (.return_, 1) := by decide +kernel
theorem dX9_init_0 : decode cX9_init 0 = .ok (.aload_n 0, 1) := by decide +kernel
theorem dX9_init_1 : decode cX9_init 1 = .ok (.invokespecial 3, 3) := by decide +kernel
theorem dX9_init_4 : decode cX9_init 4 = .ok (.aload_n 0, 1) := by decide +kernel
theorem dX9_init_5 : decode cX9_init 5 = .ok (.new 9, 3) := by decide +kernel
theorem dX9_init_8 : decode cX9_init 8 = .ok (.dup, 1) := by decide +kernel
theorem dX9_init_9 : decode cX9_init 9 = .ok (.invokespecial 11, 3) := by decide +kernel
theorem dX9_init_12 : decode cX9_init 12 = .ok (.putfield 12, 3) := by decide +kernel
theorem dX9_init_15 : decode cX9_init 15 = .ok (.aload_n 0, 1) := by decide +kernel
theorem dX9_init_16 : decode cX9_init 16 = .ok (.iconst 3, 1) := by decide +kernel
theorem dX9_init_17 : decode cX9_init 17 = .ok (.anewarray 9, 3) := by decide +kernel
theorem dX9_init_20 : decode cX9_init 20 = .ok (.putfield 16, 3) := by decide +kernel
theorem dX9_init_23 : decode cX9_init 23 = .ok (.aload_n 0, 1) := by decide +kernel
theorem dX9_init_24 : decode cX9_init 24 = .ok (.new 20, 3) := by decide +kernel
theorem dX9_init_27 : decode cX9_init 27 = .ok (.dup, 1) := by decide +kernel
theorem dX9_init_28 : decode cX9_init 28 = .ok (.invokespecial 22, 3) := by decide +kernel
theorem dX9_init_31 : decode cX9_init 31 = .ok (.putfield 23, 3) := by decide +kernel
theorem dX9_init_34 : decode cX9_init 34 = .ok (.aload_n 0, 1) := by decide +kernel
theorem dX9_init_35 : decode cX9_init 35 = .ok (.new 27, 3) := by decide +kernel
theorem dX9_init_38 : decode cX9_init 38 = .ok (.dup, 1) := by decide +kernel
theorem dX9_init_39 : decode cX9_init 39 = .ok (.invokespecial 29, 3) := by decide +kernel
theorem dX9_init_42 : decode cX9_init 42 = .ok (.putfield 30, 3) := by decide +kernel
theorem dX9_init_45 : decode cX9_init 45 = .ok (.aload_n 0, 1) := by decide +kernel
theorem dX9_init_46 : decode cX9_init 46 = .ok (.new 34, 3) := by decide +kernel
theorem dX9_init_49 : decode cX9_init 49 = .ok (.dup, 1) := by decide +kernel
theorem dX9_init_50 : decode cX9_init 50 = .ok (.invokespecial 36, 3) := by decide +kernel
theorem dX9_init_53 : decode cX9_init 53 = .ok (.putfield 37, 3) := by decide +kernel
theorem dX9_init_56 : decode cX9_init 56 = .ok (.return_, 1) := by decide +kernel
end
section
theorem flX4_21 : FL RX4 21 3 1 (.object "BillRegistry$Verb") false := ⟨RX4, TX4, 10, tyX4, rfl, by decide, TB_t 302 (by decide +kernel) rfl, inX4, tyX4_ok, nmX4, rfl, rfl⟩
theorem flX4_9 : FL RX4 9 3 0 (.array .int) true := ⟨RX4, TX4, 10, tyX4, rfl, by decide, TB_t 300 (by decide +kernel) rfl, inX4, tyX4_ok, nmX4, rfl, rfl⟩
theorem flX9_16 : FL RX9 16 7 1 (.array (.object "BillRegistry$World")) true := ⟨RX9, TX9, 5, tyX9, rfl, by decide, TB_t 374 (by decide +kernel) rfl, inX9, tyX9_ok, nmX9, rfl, rfl⟩
theorem flX9_30 : FL RX9 30 7 3 (.object "BillRegistry$Recourse") true := ⟨RX9, TX9, 5, tyX9, rfl, by decide, TB_t 376 (by decide +kernel) rfl, inX9, tyX9_ok, nmX9, rfl, rfl⟩
theorem flX9_37 : FL RX9 37 7 4 (.object "BillRegistry$Cure") true := ⟨RX9, TX9, 5, tyX9, rfl, by decide, TB_t 377 (by decide +kernel) rfl, inX9, tyX9_ok, nmX9, rfl, rfl⟩
theorem mlX9_11 : MLI RX9 11 yX8_init cX8_init 2 0 := ⟨TB_t 30 (by decide +kernel) rfl, TB_t 32 (by decide +kernel) rfl, TB_t 2 (by decide +kernel) rfl, ⟨by decide, by decide, by decide +kernel⟩, TB_t 31 (by decide +kernel) rfl, rfl⟩
theorem mlX9_22 : MLIN RX9 22 yX4_init cX4_init 1 0 := ⟨by decide, TB_t 296 (by decide +kernel) rfl, TB_t 6 (by decide +kernel) rfl, ⟨by decide, by decide, by decide +kernel⟩, TB_t 295 (by decide +kernel) rfl, rfl⟩
theorem mlX9_29 : MLIN RX9 29 yX5_init cX5_init 1 0 := ⟨by decide, TB_t 339 (by decide +kernel) rfl, TB_t 9 (by decide +kernel) rfl, ⟨by decide, by decide, by decide +kernel⟩, TB_t 338 (by decide +kernel) rfl, rfl⟩
theorem mlX9_36 : MLI RX9 36 yX3_init cX3_init 2 0 := ⟨TB_t 362 (by decide +kernel) rfl, TB_t 364 (by decide +kernel) rfl, TB_t 10 (by decide +kernel) rfl, ⟨by decide, by decide, by decide +kernel⟩, TB_t 363 (by decide +kernel) rfl, rfl⟩
theorem nlX9_20 : NL RX9 20 3 10 [.null, .null, .int 0, .int 0, .null, .int 0, .int 0, .int 0, .int 0, .int 0] := ⟨RX4, TX4, tyX4, rfl, TB_t 292 (by decide +kernel) rfl, TB_t 293 (by decide +kernel) rfl, TB_t 6 (by decide +kernel) rfl, inX4, tyX4_ok, by decide⟩
theorem nlX9_27 : NL RX9 27 4 4 [.null, .null, .null, .int 0] := ⟨RX5, TX5, tyX5, rfl, TB_t 335 (by decide +kernel) rfl, TB_t 336 (by decide +kernel) rfl, TB_t 9 (by decide +kernel) rfl, inX5, tyX5_ok, by decide⟩
theorem nlX9_34 : NL RX9 34 2 1 [.null] := ⟨RX3, TX3, tyX3, rfl, TB_t 360 (by decide +kernel) rfl, TB_t 361 (by decide +kernel) rfl, TB_t 10 (by decide +kernel) rfl, inX3, tyX3_ok, by decide⟩
theorem nlX9_9 : NL RX9 9 6 11 [.int 0, .int 0, .int 0, .int 0, .int 0, .int 0, .int 0, .int 0, .null, .null, .null] := ⟨RX8, TX8, tyX8, rfl, TB_t 28 (by decide +kernel) rfl, TB_t 29 (by decide +kernel) rfl, TB_t 2 (by decide +kernel) rfl, inX8, tyX8_ok, by decide⟩
theorem wcX9_9 : Cond.classLink RX9 9 RX8 ∈ TB := TB_t 28 (by decide +kernel) rfl
theorem wlX4_3 : Cond.methodLink RX4 3 objectInit ∈ TB := TB_t 297 (by decide +kernel) rfl
theorem wlX9_3 : Cond.methodLink RX9 3 objectInit ∈ TB := TB_t 25 (by decide +kernel) rfl
theorem wsX4_15 : Cond.fieldLink RX4 15 "BillRegistry$Verb" "DAY" "LBillRegistry$Verb;" ∈ TB := TB_t 298 (by decide +kernel) rfl
end
section
set_option maxHeartbeats 4000000 in
set_option maxRecDepth 100000 in
theorem c_X4_init {l : Launch} {D : va_G} {kA : Nat → ClassId} {M : mM} {T : mT} {sz h vb : Nat} (hc_h : M h = some (.inr (3, [.null, .null, .int 0, .int 0, .null, .int 0, .int 0, .int 0, .int 0, .int 0]))) (hlt : h < sz) : mCvZ l yX4_init cX4_init 1 1 2 5 D kA M T sz vb [.ref h] (fun u => ∃ nb by_, u.1 h = some (.inr (3, [.ref nb, .ref vb, .int 0, .int 0, .ref by_, .int 0, .int 0, .int 0, .int 0, .int 0])) ∧ sz ≤ nb ∧ sz ≤ by_ ∧ (∀ a t, T a = some t → u.2 a = some t) ∧ ∀ a, a ≠ h → a < sz → u.1 a = M a) := by
  unfold mCvZ
  refine start_WZ (by decide) (Nat.le_of_ble_eq_true rfl) ?_
  intro p e s m below meth c ls hC hr hlk hnm hK hH hsz hZ hl
  have hx := hC.1
  have hb := hC.2.1
  have hl : lv_has ls 1 [(0, .ref h)] := hl
  have hF : ∀ a, a ≠ h → a < sz → M a = M a := fun a _ _ => rfl
  have hTT : ∀ a t, T a = some t → T a = some t := fun _ _ h => h
  refine lv_aload_n hx hb dX4_init_0 rfl (lv_at hl 0 rfl) ?_
  refine W.objInit hx hb hC.2.2.2.1 (hC.2.2.2.2 _ wlX4_3) (hC.2.2.2.2 _ w_oi) (hC.2.2.2.2 _ w_oc) rfl (by rw [hC.2.2.1]; exact hl.1) rfl dX4_init_1 (Nat.le_of_ble_eq_true rfl) (Nat.le_of_ble_eq_true rfl) ?_
  refine W.eq (g2 := F0 m 4 ls []) rfl ?_
  refine lv_aload_n hx hb dX4_init_4 rfl (lv_at hl 0 rfl) ?_
  refine lv_iconst (v := 5) hx hb dX4_init_5 (by decide) ?_
  refine ynewa (atype := .int) (ck := 0) (N := 5) (a0 := (5, .inl (fun _ => 0))) hC hK hH rfl w_ac0 rfl (fun _ h => by cases h) (fun _ => rfl) (by decide) (by decide) (by decide) (Nat.le_of_ble_eq_true rfl) (Nat.le_of_ble_eq_true rfl) dX4_init_6 (fun q1 H M2 e_q1 hz nM_q1 nT_q1 hc_q1 hfr hN => ?_)
  have g_q1 : sz ≤ q1 := by rw [← hsz, e_q1]; exact hH.2.1.1
  have n_h_q1 : h ≠ q1 := neN hc_h nM_q1
  have n_q1_h : q1 ≠ h := Ne.symm n_h_q1
  have hH := hN
  have hc_q1 : M2 q1 = some (.inl (kA 0, 5, .inl (fun _ => 0))) := hc_q1
  have hc_h : M2 h = some (.inr (3, [.null, .null, .int 0, .int 0, .null, .int 0, .int 0, .int 0, .int 0, .int 0])) := (hfr h n_h_q1).trans hc_h
  have hF : ∀ a, a ≠ h → a < sz → M2 a = M a := fun a h0 h1 => (hfr a (Nat.ne_of_lt (Nat.lt_of_lt_of_le h1 g_q1))).trans (hF a h0 h1)
  refine ypF (v := .ref q1) hC hK hH hnm (fun _ _ _ h => by cases h; rfl) flX4_9 hc_h rfl rfl (Nat.le_of_ble_eq_true rfl) dX4_init_8 (fun H locs M3 hc_h hfr hH => ?_)
  have hc_h : M3 h = some (.inr (3, [.ref q1, .null, .int 0, .int 0, .null, .int 0, .int 0, .int 0, .int 0, .int 0])) := hc_h
  have hc_q1 : M3 q1 = some (.inl (kA 0, 5, .inl (fun _ => 0))) := (hfr q1 n_q1_h).trans hc_q1
  have hF : ∀ a, a ≠ h → a < sz → M3 a = M a := fun a h0 h1 => (hfr a h0).trans (hF a h0 h1)
  refine lv_aload_n hx hb dX4_init_11 rfl (lv_at hl 0 rfl) ?_
  refine getDay hC hZ hH wsX4_15 dX4_init_12 ?_
  refine yp (v := .ref vb) hC hK hH flX4_21 hc_h rfl rfl (Nat.le_of_ble_eq_true rfl) dX4_init_15 (fun H locs M4 hc_h hfr hH => ?_)
  have hc_h : M4 h = some (.inr (3, [.ref q1, .ref vb, .int 0, .int 0, .null, .int 0, .int 0, .int 0, .int 0, .int 0])) := hc_h
  have hc_q1 : M4 q1 = some (.inl (kA 0, 5, .inl (fun _ => 0))) := (hfr q1 n_q1_h).trans hc_q1
  have hF : ∀ a, a ≠ h → a < sz → M4 a = M a := fun a h0 h1 => (hfr a h0).trans (hF a h0 h1)
  refine lv_aload_n hx hb dX4_init_18 rfl (lv_at hl 0 rfl) ?_
  refine lv_iconst (v := 0) hx hb dX4_init_19 (by decide) ?_
  refine ynewa (atype := .byte) (ck := 1) (N := 0) (a0 := (0, .inl (fun _ => 0))) hC hK hH rfl w_ac1 rfl (fun _ h => by cases h) (fun _ => rfl) (by decide) (by decide) (by decide) (Nat.le_of_ble_eq_true rfl) (Nat.le_of_ble_eq_true rfl) dX4_init_20 (fun q5 H M6 e_q5 hz nM_q5 nT_q5 hc_q5 hfr hN => ?_)
  have g_q5 : sz ≤ q5 := by rw [← hsz, e_q5]; exact hH.2.1.1
  have n_h_q5 : h ≠ q5 := neN hc_h nM_q5
  have n_q5_h : q5 ≠ h := Ne.symm n_h_q5
  have n_q1_q5 : q1 ≠ q5 := neN hc_q1 nM_q5
  have n_q5_q1 : q5 ≠ q1 := Ne.symm n_q1_q5
  have hH := hN
  have hc_q5 : M6 q5 = some (.inl (kA 1, 0, .inl (fun _ => 0))) := hc_q5
  have hc_h : M6 h = some (.inr (3, [.ref q1, .ref vb, .int 0, .int 0, .null, .int 0, .int 0, .int 0, .int 0, .int 0])) := (hfr h n_h_q5).trans hc_h
  have hc_q1 : M6 q1 = some (.inl (kA 0, 5, .inl (fun _ => 0))) := (hfr q1 n_q1_q5).trans hc_q1
  have hF : ∀ a, a ≠ h → a < sz → M6 a = M a := fun a h0 h1 => (hfr a (Nat.ne_of_lt (Nat.lt_of_lt_of_le h1 g_q5))).trans (hF a h0 h1)
  refine yp (v := .ref q5) hC hK hH flX4_24 hc_h rfl rfl (Nat.le_of_ble_eq_true rfl) dX4_init_22 (fun H locs M7 hc_h hfr hH => ?_)
  have hc_h : M7 h = some (.inr (3, [.ref q1, .ref vb, .int 0, .int 0, .ref q5, .int 0, .int 0, .int 0, .int 0, .int 0])) := hc_h
  have hc_q1 : M7 q1 = some (.inl (kA 0, 5, .inl (fun _ => 0))) := (hfr q1 n_q1_h).trans hc_q1
  have hc_q5 : M7 q5 = some (.inl (kA 1, 0, .inl (fun _ => 0))) := (hfr q5 n_q5_h).trans hc_q5
  have hF : ∀ a, a ≠ h → a < sz → M7 a = M a := fun a h0 h1 => (hfr a h0).trans (hF a h0 h1)
  exact ret_v hC hr hlk hK hH (⟨q1, q5, hc_h, g_q1, g_q5, hTT, hF⟩) (Nat.le_of_ble_eq_true rfl) (Nat.le_of_ble_eq_true rfl) dX4_init_25
set_option maxHeartbeats 4000000 in
set_option maxRecDepth 100000 in
theorem c_X9_init {l : Launch} {D : va_G} {kA : Nat → ClassId} {M : mM} {T : mT} {sz h vb : Nat} (hc_h : M h = some (.inr (7, [.null, .null, .null, .null, .null]))) (hlt : h < sz) : mCvZ l yX9_init cX9_init 1 4 149 2144 D kA M T sz vb [.ref h] (fun u => ∃ w im rd rc cu cs bs tp nb by_, u.1 h = some (.inr (7, [.ref w, .ref im, .ref rd, .ref rc, .ref cu])) ∧ u.1 w = some (.inr (6, [.int 0, .int 2, .int 0, .int 0, .int 0, .int 0, .int 0, .int (-1), .ref cs, .ref bs, .ref tp])) ∧ u.1 im = some (.inl (kA 6, 3, .inr (.inr (.inr (.inr (fun _ => none)))))) ∧ u.1 rd = some (.inr (3, [.ref nb, .ref vb, .int 0, .int 0, .ref by_, .int 0, .int 0, .int 0, .int 0, .int 0])) ∧ u.1 cs = some (.inl (kA 0, 8, .inl (c100 (fun _ => 0)))) ∧ u.2 bs = some 6 ∧ u.2 tp = some 7 ∧ sz ≤ w ∧ sz ≤ im ∧ sz ≤ rd ∧ sz ≤ rc ∧ sz ≤ cu ∧ sz ≤ cs ∧ sz ≤ bs ∧ sz ≤ tp ∧ sz ≤ nb ∧ sz ≤ by_ ∧ (∀ a t, T a = some t → u.2 a = some t) ∧ ∀ a, a ≠ h → a < sz → u.1 a = M a) := by
  unfold mCvZ
  refine start_WZ (by decide) (Nat.le_of_ble_eq_true rfl) ?_
  intro p e s m below meth c ls hC hr hlk hnm hK hH hsz hZ hl
  have hx := hC.1
  have hb := hC.2.1
  have hl : lv_has ls 1 [(0, .ref h)] := hl
  have hF : ∀ a, a ≠ h → a < sz → M a = M a := fun a _ _ => rfl
  have hTT : ∀ a t, T a = some t → T a = some t := fun _ _ h => h
  refine lv_aload_n hx hb dX9_init_0 rfl (lv_at hl 0 rfl) ?_
  refine W.objInit hx hb hC.2.2.2.1 (hC.2.2.2.2 _ wlX9_3) (hC.2.2.2.2 _ w_oi) (hC.2.2.2.2 _ w_oc) rfl (by rw [hC.2.2.1]; exact hl.1) rfl dX9_init_1 (Nat.le_of_ble_eq_true rfl) (Nat.le_of_ble_eq_true rfl) ?_
  refine W.eq (g2 := F0 m 4 ls []) rfl ?_
  refine lv_aload_n hx hb dX9_init_4 rfl (lv_at hl 0 rfl) ?_
  refine ynew hC hK hH nlX9_9 (Nat.le_of_ble_eq_true rfl) (Nat.le_of_ble_eq_true rfl) dX9_init_5 (fun q1 H M2 e_q1 hz nM_q1 nT_q1 hc_q1 hfr hN => ?_)
  have g_q1 : sz ≤ q1 := by rw [← hsz, e_q1]; exact hH.2.1.1
  have n_h_q1 : h ≠ q1 := neN hc_h nM_q1
  have n_q1_h : q1 ≠ h := Ne.symm n_h_q1
  have hH := hN
  have hc_q1 : M2 q1 = some (.inr (6, [.int 0, .int 0, .int 0, .int 0, .int 0, .int 0, .int 0, .int 0, .null, .null, .null])) := hc_q1
  have hc_h : M2 h = some (.inr (7, [.null, .null, .null, .null, .null])) := (hfr h n_h_q1).trans hc_h
  have hF : ∀ a, a ≠ h → a < sz → M2 a = M a := fun a h0 h1 => (hfr a (Nat.ne_of_lt (Nat.lt_of_lt_of_le h1 g_q1))).trans (hF a h0 h1)
  refine lv_dup hx hb dX9_init_8 rfl ?_
  have lt_q1 : q1 < Array.size H := hH.1.ltM (by rw [hc_q1]; simp)
  have gH : sz ≤ Array.size H := by rw [← hsz]; exact hH.2.1.1
  have lt_h : h < Array.size H := hH.1.ltM (by rw [hc_h]; simp)
  have lt_q1 : q1 < Array.size H := hH.1.ltM (by rw [hc_q1]; simp)
  refine goV hK hH (runI (As := []) (rest := [.ref q1, .ref h]) hC hK hH (c_X8_init hc_q1 lt_q1) mlX9_11 ⟨⟨Nat.le_of_ble_eq_true rfl, Nat.le_of_ble_eq_true rfl⟩, Nat.le_of_ble_eq_true rfl, Nat.le_of_ble_eq_true rfl⟩ rfl hl.1 rfl (Nat.le_of_ble_eq_true rfl) dX9_init_9) (fun M3 T4 H locs hP hz hH => ?_)
  try dsimp only at hP
  obtain ⟨cs5, bs6, tp7, hc_q1, hc_cs5, t_bs6, t_tp7, g_cs5, g_bs6, g_tp7, hsub, hfr⟩ := hP
  have n_h_cs5 : h ≠ cs5 := Nat.ne_of_lt (Nat.lt_of_lt_of_le lt_h g_cs5)
  have n_cs5_h : cs5 ≠ h := Ne.symm n_h_cs5
  have n_q1_cs5 : q1 ≠ cs5 := Nat.ne_of_lt (Nat.lt_of_lt_of_le lt_q1 g_cs5)
  have n_cs5_q1 : cs5 ≠ q1 := Ne.symm n_q1_cs5
  have n_h_bs6 : h ≠ bs6 := Nat.ne_of_lt (Nat.lt_of_lt_of_le lt_h g_bs6)
  have n_bs6_h : bs6 ≠ h := Ne.symm n_h_bs6
  have n_q1_bs6 : q1 ≠ bs6 := Nat.ne_of_lt (Nat.lt_of_lt_of_le lt_q1 g_bs6)
  have n_bs6_q1 : bs6 ≠ q1 := Ne.symm n_q1_bs6
  have n_h_tp7 : h ≠ tp7 := Nat.ne_of_lt (Nat.lt_of_lt_of_le lt_h g_tp7)
  have n_tp7_h : tp7 ≠ h := Ne.symm n_h_tp7
  have n_q1_tp7 : q1 ≠ tp7 := Nat.ne_of_lt (Nat.lt_of_lt_of_le lt_q1 g_tp7)
  have n_tp7_q1 : tp7 ≠ q1 := Ne.symm n_q1_tp7
  have hc_h : M3 h = some (.inr (7, [.null, .null, .null, .null, .null])) := (hfr h n_h_q1 lt_h).trans hc_h
  have g_cs5 : sz ≤ cs5 := Nat.le_trans gH g_cs5
  have g_bs6 : sz ≤ bs6 := Nat.le_trans gH g_bs6
  have g_tp7 : sz ≤ tp7 := Nat.le_trans gH g_tp7
  have hTT : ∀ a t, T a = some t → T4 a = some t := fun a t h => hsub _ _ (hTT a t h)
  have hF : ∀ a, a ≠ h → a < sz → M3 a = M a := fun a h0 h1 => (hfr a (Nat.ne_of_lt (Nat.lt_of_lt_of_le h1 g_q1)) (Nat.lt_of_lt_of_le h1 gH)).trans (hF a h0 h1)
  refine ypF (v := .ref q1) hC hK hH hnm (fun _ _ _ h => by cases h; rfl) flX9_12 hc_h rfl rfl (Nat.le_of_ble_eq_true rfl) dX9_init_12 (fun H locs M8 hc_h hfr hH => ?_)
  have hc_h : M8 h = some (.inr (7, [.ref q1, .null, .null, .null, .null])) := hc_h
  have hc_q1 : M8 q1 = some (.inr (6, [.int 0, .int 2, .int 0, .int 0, .int 0, .int 0, .int 0, .int (-1), .ref cs5, .ref bs6, .ref tp7])) := (hfr q1 n_q1_h).trans hc_q1
  have hc_cs5 : M8 cs5 = some (.inl (kA 0, 8, .inl (c100 (fun _ => 0)))) := (hfr cs5 n_cs5_h).trans hc_cs5
  have hF : ∀ a, a ≠ h → a < sz → M8 a = M a := fun a h0 h1 => (hfr a h0).trans (hF a h0 h1)
  refine lv_aload_n hx hb dX9_init_15 rfl (lv_at hl 0 rfl) ?_
  refine lv_iconst (v := 3) hx hb dX9_init_16 (by decide) ?_
  refine ynewq (ck := 6) (N := 3) hC hK hH wcX9_9 (by decide) rfl (by decide) (by decide) (by decide) (Nat.le_of_ble_eq_true rfl) (Nat.le_of_ble_eq_true rfl) dX9_init_17 (fun q9 H M10 e_q9 hz nM_q9 nT_q9 hc_q9 hfr hN => ?_)
  have g_q9 : sz ≤ q9 := by rw [← hsz, e_q9]; exact hH.2.1.1
  have n_h_q9 : h ≠ q9 := neN hc_h nM_q9
  have n_q9_h : q9 ≠ h := Ne.symm n_h_q9
  have n_q1_q9 : q1 ≠ q9 := neN hc_q1 nM_q9
  have n_q9_q1 : q9 ≠ q1 := Ne.symm n_q1_q9
  have n_cs5_q9 : cs5 ≠ q9 := neN hc_cs5 nM_q9
  have n_q9_cs5 : q9 ≠ cs5 := Ne.symm n_cs5_q9
  have hH := hN
  have hc_q9 : M10 q9 = some (.inl (kA 6, 3, .inr (.inr (.inr (.inr (fun _ => none)))))) := hc_q9
  have hc_h : M10 h = some (.inr (7, [.ref q1, .null, .null, .null, .null])) := (hfr h n_h_q9).trans hc_h
  have hc_q1 : M10 q1 = some (.inr (6, [.int 0, .int 2, .int 0, .int 0, .int 0, .int 0, .int 0, .int (-1), .ref cs5, .ref bs6, .ref tp7])) := (hfr q1 n_q1_q9).trans hc_q1
  have hc_cs5 : M10 cs5 = some (.inl (kA 0, 8, .inl (c100 (fun _ => 0)))) := (hfr cs5 n_cs5_q9).trans hc_cs5
  have hF : ∀ a, a ≠ h → a < sz → M10 a = M a := fun a h0 h1 => (hfr a (Nat.ne_of_lt (Nat.lt_of_lt_of_le h1 g_q9))).trans (hF a h0 h1)
  refine ypF (v := .ref q9) hC hK hH hnm (fun _ _ _ h => by cases h; rfl) flX9_16 hc_h rfl rfl (Nat.le_of_ble_eq_true rfl) dX9_init_20 (fun H locs M11 hc_h hfr hH => ?_)
  have hc_h : M11 h = some (.inr (7, [.ref q1, .ref q9, .null, .null, .null])) := hc_h
  have hc_q1 : M11 q1 = some (.inr (6, [.int 0, .int 2, .int 0, .int 0, .int 0, .int 0, .int 0, .int (-1), .ref cs5, .ref bs6, .ref tp7])) := (hfr q1 n_q1_h).trans hc_q1
  have hc_cs5 : M11 cs5 = some (.inl (kA 0, 8, .inl (c100 (fun _ => 0)))) := (hfr cs5 n_cs5_h).trans hc_cs5
  have hc_q9 : M11 q9 = some (.inl (kA 6, 3, .inr (.inr (.inr (.inr (fun _ => none)))))) := (hfr q9 n_q9_h).trans hc_q9
  have hF : ∀ a, a ≠ h → a < sz → M11 a = M a := fun a h0 h1 => (hfr a h0).trans (hF a h0 h1)
  refine lv_aload_n hx hb dX9_init_23 rfl (lv_at hl 0 rfl) ?_
  refine ynew hC hK hH nlX9_20 (Nat.le_of_ble_eq_true rfl) (Nat.le_of_ble_eq_true rfl) dX9_init_24 (fun q12 H M13 e_q12 hz nM_q12 nT_q12 hc_q12 hfr hN => ?_)
  have g_q12 : sz ≤ q12 := by rw [← hsz, e_q12]; exact hH.2.1.1
  have n_h_q12 : h ≠ q12 := neN hc_h nM_q12
  have n_q12_h : q12 ≠ h := Ne.symm n_h_q12
  have n_q1_q12 : q1 ≠ q12 := neN hc_q1 nM_q12
  have n_q12_q1 : q12 ≠ q1 := Ne.symm n_q1_q12
  have n_cs5_q12 : cs5 ≠ q12 := neN hc_cs5 nM_q12
  have n_q12_cs5 : q12 ≠ cs5 := Ne.symm n_cs5_q12
  have n_q9_q12 : q9 ≠ q12 := neN hc_q9 nM_q12
  have n_q12_q9 : q12 ≠ q9 := Ne.symm n_q9_q12
  have hH := hN
  have hc_q12 : M13 q12 = some (.inr (3, [.null, .null, .int 0, .int 0, .null, .int 0, .int 0, .int 0, .int 0, .int 0])) := hc_q12
  have hc_h : M13 h = some (.inr (7, [.ref q1, .ref q9, .null, .null, .null])) := (hfr h n_h_q12).trans hc_h
  have hc_q1 : M13 q1 = some (.inr (6, [.int 0, .int 2, .int 0, .int 0, .int 0, .int 0, .int 0, .int (-1), .ref cs5, .ref bs6, .ref tp7])) := (hfr q1 n_q1_q12).trans hc_q1
  have hc_cs5 : M13 cs5 = some (.inl (kA 0, 8, .inl (c100 (fun _ => 0)))) := (hfr cs5 n_cs5_q12).trans hc_cs5
  have hc_q9 : M13 q9 = some (.inl (kA 6, 3, .inr (.inr (.inr (.inr (fun _ => none)))))) := (hfr q9 n_q9_q12).trans hc_q9
  have hF : ∀ a, a ≠ h → a < sz → M13 a = M a := fun a h0 h1 => (hfr a (Nat.ne_of_lt (Nat.lt_of_lt_of_le h1 g_q12))).trans (hF a h0 h1)
  refine lv_dup hx hb dX9_init_27 rfl ?_
  have lt_q12 : q12 < Array.size H := hH.1.ltM (by rw [hc_q12]; simp)
  have gH : sz ≤ Array.size H := by rw [← hsz]; exact hH.2.1.1
  have lt_h : h < Array.size H := hH.1.ltM (by rw [hc_h]; simp)
  have lt_q1 : q1 < Array.size H := hH.1.ltM (by rw [hc_q1]; simp)
  have lt_cs5 : cs5 < Array.size H := hH.1.ltM (by rw [hc_cs5]; simp)
  have lt_q9 : q9 < Array.size H := hH.1.ltM (by rw [hc_q9]; simp)
  have lt_q12 : q12 < Array.size H := hH.1.ltM (by rw [hc_q12]; simp)
  refine goV hK hH (runINZ (As := []) (rest := [.ref q12, .ref h]) hC hK hH hZ (c_X4_init hc_q12 lt_q12) mlX9_22 ⟨⟨Nat.le_of_ble_eq_true rfl, Nat.le_of_ble_eq_true rfl⟩, Nat.le_of_ble_eq_true rfl, Nat.le_of_ble_eq_true rfl⟩ rfl hl.1 rfl (Nat.le_of_ble_eq_true rfl) dX9_init_28) (fun M14 T15 H locs hP hz hH => ?_)
  try dsimp only at hP
  obtain ⟨nb16, by_17, hc_q12, g_nb16, g_by_17, hsub, hfr⟩ := hP
  have n_h_nb16 : h ≠ nb16 := Nat.ne_of_lt (Nat.lt_of_lt_of_le lt_h g_nb16)
  have n_nb16_h : nb16 ≠ h := Ne.symm n_h_nb16
  have n_q1_nb16 : q1 ≠ nb16 := Nat.ne_of_lt (Nat.lt_of_lt_of_le lt_q1 g_nb16)
  have n_nb16_q1 : nb16 ≠ q1 := Ne.symm n_q1_nb16
  have n_cs5_nb16 : cs5 ≠ nb16 := Nat.ne_of_lt (Nat.lt_of_lt_of_le lt_cs5 g_nb16)
  have n_nb16_cs5 : nb16 ≠ cs5 := Ne.symm n_cs5_nb16
  have n_q9_nb16 : q9 ≠ nb16 := Nat.ne_of_lt (Nat.lt_of_lt_of_le lt_q9 g_nb16)
  have n_nb16_q9 : nb16 ≠ q9 := Ne.symm n_q9_nb16
  have n_q12_nb16 : q12 ≠ nb16 := Nat.ne_of_lt (Nat.lt_of_lt_of_le lt_q12 g_nb16)
  have n_nb16_q12 : nb16 ≠ q12 := Ne.symm n_q12_nb16
  have n_h_by_17 : h ≠ by_17 := Nat.ne_of_lt (Nat.lt_of_lt_of_le lt_h g_by_17)
  have n_by_17_h : by_17 ≠ h := Ne.symm n_h_by_17
  have n_q1_by_17 : q1 ≠ by_17 := Nat.ne_of_lt (Nat.lt_of_lt_of_le lt_q1 g_by_17)
  have n_by_17_q1 : by_17 ≠ q1 := Ne.symm n_q1_by_17
  have n_cs5_by_17 : cs5 ≠ by_17 := Nat.ne_of_lt (Nat.lt_of_lt_of_le lt_cs5 g_by_17)
  have n_by_17_cs5 : by_17 ≠ cs5 := Ne.symm n_cs5_by_17
  have n_q9_by_17 : q9 ≠ by_17 := Nat.ne_of_lt (Nat.lt_of_lt_of_le lt_q9 g_by_17)
  have n_by_17_q9 : by_17 ≠ q9 := Ne.symm n_q9_by_17
  have n_q12_by_17 : q12 ≠ by_17 := Nat.ne_of_lt (Nat.lt_of_lt_of_le lt_q12 g_by_17)
  have n_by_17_q12 : by_17 ≠ q12 := Ne.symm n_q12_by_17
  have hc_h : M14 h = some (.inr (7, [.ref q1, .ref q9, .null, .null, .null])) := (hfr h n_h_q12 lt_h).trans hc_h
  have hc_q1 : M14 q1 = some (.inr (6, [.int 0, .int 2, .int 0, .int 0, .int 0, .int 0, .int 0, .int (-1), .ref cs5, .ref bs6, .ref tp7])) := (hfr q1 n_q1_q12 lt_q1).trans hc_q1
  have hc_cs5 : M14 cs5 = some (.inl (kA 0, 8, .inl (c100 (fun _ => 0)))) := (hfr cs5 n_cs5_q12 lt_cs5).trans hc_cs5
  have hc_q9 : M14 q9 = some (.inl (kA 6, 3, .inr (.inr (.inr (.inr (fun _ => none)))))) := (hfr q9 n_q9_q12 lt_q9).trans hc_q9
  have t_bs6 : T15 bs6 = some 6 := hsub _ _ t_bs6
  have t_tp7 : T15 tp7 = some 7 := hsub _ _ t_tp7
  have g_nb16 : sz ≤ nb16 := Nat.le_trans gH g_nb16
  have g_by_17 : sz ≤ by_17 := Nat.le_trans gH g_by_17
  have hTT : ∀ a t, T a = some t → T15 a = some t := fun a t h => hsub _ _ (hTT a t h)
  have hF : ∀ a, a ≠ h → a < sz → M14 a = M a := fun a h0 h1 => (hfr a (Nat.ne_of_lt (Nat.lt_of_lt_of_le h1 g_q12)) (Nat.lt_of_lt_of_le h1 gH)).trans (hF a h0 h1)
  refine ypF (v := .ref q12) hC hK hH hnm (fun _ _ _ h => by cases h; rfl) flX9_23 hc_h rfl rfl (Nat.le_of_ble_eq_true rfl) dX9_init_31 (fun H locs M18 hc_h hfr hH => ?_)
  have hc_h : M18 h = some (.inr (7, [.ref q1, .ref q9, .ref q12, .null, .null])) := hc_h
  have hc_q1 : M18 q1 = some (.inr (6, [.int 0, .int 2, .int 0, .int 0, .int 0, .int 0, .int 0, .int (-1), .ref cs5, .ref bs6, .ref tp7])) := (hfr q1 n_q1_h).trans hc_q1
  have hc_cs5 : M18 cs5 = some (.inl (kA 0, 8, .inl (c100 (fun _ => 0)))) := (hfr cs5 n_cs5_h).trans hc_cs5
  have hc_q9 : M18 q9 = some (.inl (kA 6, 3, .inr (.inr (.inr (.inr (fun _ => none)))))) := (hfr q9 n_q9_h).trans hc_q9
  have hc_q12 : M18 q12 = some (.inr (3, [.ref nb16, .ref vb, .int 0, .int 0, .ref by_17, .int 0, .int 0, .int 0, .int 0, .int 0])) := (hfr q12 n_q12_h).trans hc_q12
  have hF : ∀ a, a ≠ h → a < sz → M18 a = M a := fun a h0 h1 => (hfr a h0).trans (hF a h0 h1)
  refine lv_aload_n hx hb dX9_init_34 rfl (lv_at hl 0 rfl) ?_
  refine ynew hC hK hH nlX9_27 (Nat.le_of_ble_eq_true rfl) (Nat.le_of_ble_eq_true rfl) dX9_init_35 (fun q19 H M20 e_q19 hz nM_q19 nT_q19 hc_q19 hfr hN => ?_)
  have g_q19 : sz ≤ q19 := by rw [← hsz, e_q19]; exact hH.2.1.1
  have n_h_q19 : h ≠ q19 := neN hc_h nM_q19
  have n_q19_h : q19 ≠ h := Ne.symm n_h_q19
  have n_q1_q19 : q1 ≠ q19 := neN hc_q1 nM_q19
  have n_q19_q1 : q19 ≠ q1 := Ne.symm n_q1_q19
  have n_cs5_q19 : cs5 ≠ q19 := neN hc_cs5 nM_q19
  have n_q19_cs5 : q19 ≠ cs5 := Ne.symm n_cs5_q19
  have n_q9_q19 : q9 ≠ q19 := neN hc_q9 nM_q19
  have n_q19_q9 : q19 ≠ q9 := Ne.symm n_q9_q19
  have n_q12_q19 : q12 ≠ q19 := neN hc_q12 nM_q19
  have n_q19_q12 : q19 ≠ q12 := Ne.symm n_q12_q19
  have hH := hN
  have hc_q19 : M20 q19 = some (.inr (4, [.null, .null, .null, .int 0])) := hc_q19
  have hc_h : M20 h = some (.inr (7, [.ref q1, .ref q9, .ref q12, .null, .null])) := (hfr h n_h_q19).trans hc_h
  have hc_q1 : M20 q1 = some (.inr (6, [.int 0, .int 2, .int 0, .int 0, .int 0, .int 0, .int 0, .int (-1), .ref cs5, .ref bs6, .ref tp7])) := (hfr q1 n_q1_q19).trans hc_q1
  have hc_cs5 : M20 cs5 = some (.inl (kA 0, 8, .inl (c100 (fun _ => 0)))) := (hfr cs5 n_cs5_q19).trans hc_cs5
  have hc_q9 : M20 q9 = some (.inl (kA 6, 3, .inr (.inr (.inr (.inr (fun _ => none)))))) := (hfr q9 n_q9_q19).trans hc_q9
  have hc_q12 : M20 q12 = some (.inr (3, [.ref nb16, .ref vb, .int 0, .int 0, .ref by_17, .int 0, .int 0, .int 0, .int 0, .int 0])) := (hfr q12 n_q12_q19).trans hc_q12
  have hF : ∀ a, a ≠ h → a < sz → M20 a = M a := fun a h0 h1 => (hfr a (Nat.ne_of_lt (Nat.lt_of_lt_of_le h1 g_q19))).trans (hF a h0 h1)
  refine lv_dup hx hb dX9_init_38 rfl ?_
  have lt_q19 : q19 < Array.size H := hH.1.ltM (by rw [hc_q19]; simp)
  have gH : sz ≤ Array.size H := by rw [← hsz]; exact hH.2.1.1
  have lt_h : h < Array.size H := hH.1.ltM (by rw [hc_h]; simp)
  have lt_q1 : q1 < Array.size H := hH.1.ltM (by rw [hc_q1]; simp)
  have lt_cs5 : cs5 < Array.size H := hH.1.ltM (by rw [hc_cs5]; simp)
  have lt_q9 : q9 < Array.size H := hH.1.ltM (by rw [hc_q9]; simp)
  have lt_q12 : q12 < Array.size H := hH.1.ltM (by rw [hc_q12]; simp)
  have lt_q19 : q19 < Array.size H := hH.1.ltM (by rw [hc_q19]; simp)
  refine goV hK hH (runIN (As := []) (rest := [.ref q19, .ref h]) hC hK hH (c_X5_init hc_q19 lt_q19) mlX9_29 ⟨⟨Nat.le_of_ble_eq_true rfl, Nat.le_of_ble_eq_true rfl⟩, Nat.le_of_ble_eq_true rfl, Nat.le_of_ble_eq_true rfl⟩ rfl hl.1 rfl (Nat.le_of_ble_eq_true rfl) dX9_init_39) (fun M21 T22 H locs hP hz hH => ?_)
  try dsimp only at hP
  obtain ⟨nM_q19, t_q19, hsub, hfr⟩ := hP
  have hc_h : M21 h = some (.inr (7, [.ref q1, .ref q9, .ref q12, .null, .null])) := (hfr h n_h_q19 lt_h).trans hc_h
  have hc_q1 : M21 q1 = some (.inr (6, [.int 0, .int 2, .int 0, .int 0, .int 0, .int 0, .int 0, .int (-1), .ref cs5, .ref bs6, .ref tp7])) := (hfr q1 n_q1_q19 lt_q1).trans hc_q1
  have hc_cs5 : M21 cs5 = some (.inl (kA 0, 8, .inl (c100 (fun _ => 0)))) := (hfr cs5 n_cs5_q19 lt_cs5).trans hc_cs5
  have hc_q9 : M21 q9 = some (.inl (kA 6, 3, .inr (.inr (.inr (.inr (fun _ => none)))))) := (hfr q9 n_q9_q19 lt_q9).trans hc_q9
  have hc_q12 : M21 q12 = some (.inr (3, [.ref nb16, .ref vb, .int 0, .int 0, .ref by_17, .int 0, .int 0, .int 0, .int 0, .int 0])) := (hfr q12 n_q12_q19 lt_q12).trans hc_q12
  have t_bs6 : T22 bs6 = some 6 := hsub _ _ t_bs6
  have t_tp7 : T22 tp7 = some 7 := hsub _ _ t_tp7
  have hTT : ∀ a t, T a = some t → T22 a = some t := fun a t h => hsub _ _ (hTT a t h)
  have hF : ∀ a, a ≠ h → a < sz → M21 a = M a := fun a h0 h1 => (hfr a (Nat.ne_of_lt (Nat.lt_of_lt_of_le h1 g_q19)) (Nat.lt_of_lt_of_le h1 gH)).trans (hF a h0 h1)
  refine ypF (v := .ref q19) hC hK hH hnm (fun _ _ _ h => by cases h; rfl) flX9_30 hc_h rfl rfl (Nat.le_of_ble_eq_true rfl) dX9_init_42 (fun H locs M23 hc_h hfr hH => ?_)
  have hc_h : M23 h = some (.inr (7, [.ref q1, .ref q9, .ref q12, .ref q19, .null])) := hc_h
  have hc_q1 : M23 q1 = some (.inr (6, [.int 0, .int 2, .int 0, .int 0, .int 0, .int 0, .int 0, .int (-1), .ref cs5, .ref bs6, .ref tp7])) := (hfr q1 n_q1_h).trans hc_q1
  have hc_cs5 : M23 cs5 = some (.inl (kA 0, 8, .inl (c100 (fun _ => 0)))) := (hfr cs5 n_cs5_h).trans hc_cs5
  have hc_q9 : M23 q9 = some (.inl (kA 6, 3, .inr (.inr (.inr (.inr (fun _ => none)))))) := (hfr q9 n_q9_h).trans hc_q9
  have hc_q12 : M23 q12 = some (.inr (3, [.ref nb16, .ref vb, .int 0, .int 0, .ref by_17, .int 0, .int 0, .int 0, .int 0, .int 0])) := (hfr q12 n_q12_h).trans hc_q12
  have hF : ∀ a, a ≠ h → a < sz → M23 a = M a := fun a h0 h1 => (hfr a h0).trans (hF a h0 h1)
  refine lv_aload_n hx hb dX9_init_45 rfl (lv_at hl 0 rfl) ?_
  refine ynew hC hK hH nlX9_34 (Nat.le_of_ble_eq_true rfl) (Nat.le_of_ble_eq_true rfl) dX9_init_46 (fun q24 H M25 e_q24 hz nM_q24 nT_q24 hc_q24 hfr hN => ?_)
  have g_q24 : sz ≤ q24 := by rw [← hsz, e_q24]; exact hH.2.1.1
  have n_h_q24 : h ≠ q24 := neN hc_h nM_q24
  have n_q24_h : q24 ≠ h := Ne.symm n_h_q24
  have n_q1_q24 : q1 ≠ q24 := neN hc_q1 nM_q24
  have n_q24_q1 : q24 ≠ q1 := Ne.symm n_q1_q24
  have n_cs5_q24 : cs5 ≠ q24 := neN hc_cs5 nM_q24
  have n_q24_cs5 : q24 ≠ cs5 := Ne.symm n_cs5_q24
  have n_q9_q24 : q9 ≠ q24 := neN hc_q9 nM_q24
  have n_q24_q9 : q24 ≠ q9 := Ne.symm n_q9_q24
  have n_q12_q24 : q12 ≠ q24 := neN hc_q12 nM_q24
  have n_q24_q12 : q24 ≠ q12 := Ne.symm n_q12_q24
  have hH := hN
  have hc_q24 : M25 q24 = some (.inr (2, [.null])) := hc_q24
  have hc_h : M25 h = some (.inr (7, [.ref q1, .ref q9, .ref q12, .ref q19, .null])) := (hfr h n_h_q24).trans hc_h
  have hc_q1 : M25 q1 = some (.inr (6, [.int 0, .int 2, .int 0, .int 0, .int 0, .int 0, .int 0, .int (-1), .ref cs5, .ref bs6, .ref tp7])) := (hfr q1 n_q1_q24).trans hc_q1
  have hc_cs5 : M25 cs5 = some (.inl (kA 0, 8, .inl (c100 (fun _ => 0)))) := (hfr cs5 n_cs5_q24).trans hc_cs5
  have hc_q9 : M25 q9 = some (.inl (kA 6, 3, .inr (.inr (.inr (.inr (fun _ => none)))))) := (hfr q9 n_q9_q24).trans hc_q9
  have hc_q12 : M25 q12 = some (.inr (3, [.ref nb16, .ref vb, .int 0, .int 0, .ref by_17, .int 0, .int 0, .int 0, .int 0, .int 0])) := (hfr q12 n_q12_q24).trans hc_q12
  have hF : ∀ a, a ≠ h → a < sz → M25 a = M a := fun a h0 h1 => (hfr a (Nat.ne_of_lt (Nat.lt_of_lt_of_le h1 g_q24))).trans (hF a h0 h1)
  refine lv_dup hx hb dX9_init_49 rfl ?_
  have lt_q24 : q24 < Array.size H := hH.1.ltM (by rw [hc_q24]; simp)
  have gH : sz ≤ Array.size H := by rw [← hsz]; exact hH.2.1.1
  have lt_h : h < Array.size H := hH.1.ltM (by rw [hc_h]; simp)
  have lt_q1 : q1 < Array.size H := hH.1.ltM (by rw [hc_q1]; simp)
  have lt_cs5 : cs5 < Array.size H := hH.1.ltM (by rw [hc_cs5]; simp)
  have lt_q9 : q9 < Array.size H := hH.1.ltM (by rw [hc_q9]; simp)
  have lt_q12 : q12 < Array.size H := hH.1.ltM (by rw [hc_q12]; simp)
  have lt_q24 : q24 < Array.size H := hH.1.ltM (by rw [hc_q24]; simp)
  refine goV hK hH (runI (As := []) (rest := [.ref q24, .ref h]) hC hK hH (c_X3_init hc_q24 lt_q24) mlX9_36 ⟨⟨Nat.le_of_ble_eq_true rfl, Nat.le_of_ble_eq_true rfl⟩, Nat.le_of_ble_eq_true rfl, Nat.le_of_ble_eq_true rfl⟩ rfl hl.1 rfl (Nat.le_of_ble_eq_true rfl) dX9_init_50) (fun M26 T27 H locs hP hz hH => ?_)
  try dsimp only at hP
  obtain ⟨nM_q24, t_q24, hsub, hfr⟩ := hP
  have hc_h : M26 h = some (.inr (7, [.ref q1, .ref q9, .ref q12, .ref q19, .null])) := (hfr h n_h_q24 lt_h).trans hc_h
  have hc_q1 : M26 q1 = some (.inr (6, [.int 0, .int 2, .int 0, .int 0, .int 0, .int 0, .int 0, .int (-1), .ref cs5, .ref bs6, .ref tp7])) := (hfr q1 n_q1_q24 lt_q1).trans hc_q1
  have hc_cs5 : M26 cs5 = some (.inl (kA 0, 8, .inl (c100 (fun _ => 0)))) := (hfr cs5 n_cs5_q24 lt_cs5).trans hc_cs5
  have hc_q9 : M26 q9 = some (.inl (kA 6, 3, .inr (.inr (.inr (.inr (fun _ => none)))))) := (hfr q9 n_q9_q24 lt_q9).trans hc_q9
  have hc_q12 : M26 q12 = some (.inr (3, [.ref nb16, .ref vb, .int 0, .int 0, .ref by_17, .int 0, .int 0, .int 0, .int 0, .int 0])) := (hfr q12 n_q12_q24 lt_q12).trans hc_q12
  have t_bs6 : T27 bs6 = some 6 := hsub _ _ t_bs6
  have t_tp7 : T27 tp7 = some 7 := hsub _ _ t_tp7
  have t_q19 : T27 q19 = some 10 := hsub _ _ t_q19
  have hTT : ∀ a t, T a = some t → T27 a = some t := fun a t h => hsub _ _ (hTT a t h)
  have hF : ∀ a, a ≠ h → a < sz → M26 a = M a := fun a h0 h1 => (hfr a (Nat.ne_of_lt (Nat.lt_of_lt_of_le h1 g_q24)) (Nat.lt_of_lt_of_le h1 gH)).trans (hF a h0 h1)
  refine ypF (v := .ref q24) hC hK hH hnm (fun _ _ _ h => by cases h; rfl) flX9_37 hc_h rfl rfl (Nat.le_of_ble_eq_true rfl) dX9_init_53 (fun H locs M28 hc_h hfr hH => ?_)
  have hc_h : M28 h = some (.inr (7, [.ref q1, .ref q9, .ref q12, .ref q19, .ref q24])) := hc_h
  have hc_q1 : M28 q1 = some (.inr (6, [.int 0, .int 2, .int 0, .int 0, .int 0, .int 0, .int 0, .int (-1), .ref cs5, .ref bs6, .ref tp7])) := (hfr q1 n_q1_h).trans hc_q1
  have hc_cs5 : M28 cs5 = some (.inl (kA 0, 8, .inl (c100 (fun _ => 0)))) := (hfr cs5 n_cs5_h).trans hc_cs5
  have hc_q9 : M28 q9 = some (.inl (kA 6, 3, .inr (.inr (.inr (.inr (fun _ => none)))))) := (hfr q9 n_q9_h).trans hc_q9
  have hc_q12 : M28 q12 = some (.inr (3, [.ref nb16, .ref vb, .int 0, .int 0, .ref by_17, .int 0, .int 0, .int 0, .int 0, .int 0])) := (hfr q12 n_q12_h).trans hc_q12
  have hF : ∀ a, a ≠ h → a < sz → M28 a = M a := fun a h0 h1 => (hfr a h0).trans (hF a h0 h1)
  exact ret_v hC hr hlk hK hH (⟨q1, q9, q12, q19, q24, cs5, bs6, tp7, nb16, by_17, hc_h, hc_q1, hc_q9, hc_q12, hc_cs5, t_bs6, t_tp7, g_q1, g_q9, g_q12, g_q19, g_q24, g_cs5, g_bs6, g_tp7, g_nb16, g_by_17, hTT, hF⟩) (Nat.le_of_ble_eq_true rfl) (Nat.le_of_ble_eq_true rfl) dX9_init_56
end
section
theorem dX8_copy_0 : decode cX8_copy 0 = .ok (.aload_n 0, 1) := by decide +kernel
theorem dX8_copy_1 : decode cX8_copy 1 = .ok (.aload_n 1, 1) := by decide +kernel
theorem dX8_copy_2 : decode cX8_copy 2 = .ok (.getfield 29, 3) := by decide +kernel
theorem dX8_copy_5 : decode cX8_copy 5 = .ok (.putfield 29, 3) := by decide +kernel
theorem dX8_copy_8 : decode cX8_copy 8 = .ok (.aload_n 0, 1) := by decide +kernel
theorem dX8_copy_9 : decode cX8_copy 9 = .ok (.aload_n 1, 1) := by decide +kernel
theorem dX8_copy_10 : decode cX8_copy 10 = .ok (.getfield 33, 3) := by decide +kernel
theorem dX8_copy_13 : decode cX8_copy 13 = .ok (.putfield 33, 3) := by decide +kernel
theorem dX8_copy_16 : decode cX8_copy 16 = .ok (.aload_n 0, 1) := by decide +kernel
theorem dX8_copy_17 : decode cX8_copy 17 = .ok (.aload_n 1, 1) := by decide +kernel
theorem dX8_copy_18 : decode cX8_copy 18 = .ok (.getfield 36, 3) := by decide +kernel
theorem dX8_copy_21 : decode cX8_copy 21 = .ok (.putfield 36, 3) := by decide +kernel
theorem dX8_copy_24 : decode cX8_copy 24 = .ok (.aload_n 0, 1) := by decide +kernel
theorem dX8_copy_25 : decode cX8_copy 25 = .ok (.aload_n 1, 1) := by decide +kernel
theorem dX8_copy_26 : decode cX8_copy 26 = .ok (.getfield 39, 3) := by decide +kernel
theorem dX8_copy_29 : decode cX8_copy 29 = .ok (.putfield 39, 3) := by decide +kernel
theorem dX8_copy_32 : decode cX8_copy 32 = .ok (.aload_n 0, 1) := by decide +kernel
theorem dX8_copy_33 : decode cX8_copy 33 = .ok (.aload_n 1, 1) := by decide +kernel
theorem dX8_copy_34 : decode cX8_copy 34 = .ok (.getfield 42, 3) := by decide +kernel
theorem dX8_copy_37 : decode cX8_copy 37 = .ok (.putfield 42, 3) := by decide +kernel
theorem dX8_copy_40 : decode cX8_copy 40 = .ok (.aload_n 0, 1) := by decide +kernel
theorem dX8_copy_41 : decode cX8_copy 41 = .ok (.aload_n 1, 1) := by decide +kernel
theorem dX8_copy_42 : decode cX8_copy 42 = .ok (.getfield 45, 3) := by decide +kernel
theorem dX8_copy_45 : decode cX8_copy 45 = .ok (.putfield 45, 3) := by decide +kernel
theorem dX8_copy_48 : decode cX8_copy 48 = .ok (.aload_n 0, 1) := by decide +kernel
theorem dX8_copy_49 : decode cX8_copy 49 = .ok (.aload_n 1, 1) := by decide +kernel
theorem dX8_copy_50 : decode cX8_copy 50 = .ok (.getfield 48, 3) := by decide +kernel
theorem dX8_copy_53 : decode cX8_copy 53 = .ok (.putfield 48, 3) := by decide +kernel
theorem dX8_copy_56 : decode cX8_copy 56 = .ok (.aload_n 0, 1) := by decide +kernel
theorem dX8_copy_57 : decode cX8_copy 57 = .ok (.aload_n 1, 1) := by decide +kernel
theorem dX8_copy_58 : decode cX8_copy 58 = .ok (.getfield 51, 3) := by decide +kernel
theorem dX8_copy_61 : decode cX8_copy 61 = .ok (.putfield 51, 3) := by decide +kernel
theorem dX8_copy_64 : decode cX8_copy 64 = .ok (.aload_n 1, 1) := by decide +kernel
theorem dX8_copy_65 : decode cX8_copy 65 = .ok (.getfield 9, 3) := by decide +kernel
theorem dX8_copy_68 : decode cX8_copy 68 = .ok (.iconst 0, 1) := by decide +kernel
theorem dX8_copy_69 : decode cX8_copy 69 = .ok (.aload_n 0, 1) := by decide +kernel
theorem dX8_copy_70 : decode cX8_copy 70 = .ok (.getfield 9, 3) := by decide +kernel
theorem dX8_copy_73 : decode cX8_copy 73 = .ok (.iconst 0, 1) := by decide +kernel
theorem dX8_copy_74 : decode cX8_copy 74 = .ok (.bipush 8, 2) := by decide +kernel
theorem dX8_copy_76 : decode cX8_copy 76 = .ok (.invokestatic 54, 3) := by decide +kernel
theorem dX8_copy_79 : decode cX8_copy 79 = .ok (.aload_n 1, 1) := by decide +kernel
theorem dX8_copy_80 : decode cX8_copy 80 = .ok (.getfield 21, 3) := by decide +kernel
theorem dX8_copy_83 : decode cX8_copy 83 = .ok (.iconst 0, 1) := by decide +kernel
theorem dX8_copy_84 : decode cX8_copy 84 = .ok (.aload_n 0, 1) := by decide +kernel
theorem dX8_copy_85 : decode cX8_copy 85 = .ok (.getfield 21, 3) := by decide +kernel
theorem dX8_copy_88 : decode cX8_copy 88 = .ok (.iconst 0, 1) := by decide +kernel
theorem dX8_copy_89 : decode cX8_copy 89 = .ok (.sipush 600, 3) := by decide +kernel
theorem dX8_copy_92 : decode cX8_copy 92 = .ok (.invokestatic 54, 3) := by decide +kernel
theorem dX8_copy_95 : decode cX8_copy 95 = .ok (.iconst 0, 1) := by decide +kernel
theorem dX8_copy_96 : decode cX8_copy 96 = .ok (.istore_n 2, 1) := by decide +kernel
theorem dX8_copy_97 : decode cX8_copy 97 = .ok (.iload_n 2, 1) := by decide +kernel
theorem dX8_copy_98 : decode cX8_copy 98 = .ok (.iconst 4, 1) := by decide +kernel
theorem dX8_copy_99 : decode cX8_copy 99 = .ok (.if_icmp .ge 32, 3) := by decide +kernel
theorem dX8_copy_102 : decode cX8_copy 102 = .ok (.iload_n 2, 1) := by decide +kernel
theorem dX8_copy_103 : decode cX8_copy 103 = .ok (.aload_n 1, 1) := by decide +kernel
theorem dX8_copy_104 : decode cX8_copy 104 = .ok (.getfield 36, 3) := by decide +kernel
theorem dX8_copy_107 : decode cX8_copy 107 = .ok (.if_icmp .ge 24, 3) := by decide +kernel
theorem dX8_copy_131 : decode cX8_copy 131 = .ok (.return_, 1) := by decide +kernel
theorem dX9_again_0 : decode cX9_again 0 = .ok (.iload_n 1, 1) := by decide +kernel
theorem dX9_again_1 : decode cX9_again 1 = .ok (.ifCond .lt 17, 3) := by decide +kernel
theorem dX9_again_4 : decode cX9_again 4 = .ok (.iload_n 1, 1) := by decide +kernel
theorem dX9_again_5 : decode cX9_again 5 = .ok (.iconst 3, 1) := by decide +kernel
theorem dX9_again_6 : decode cX9_again 6 = .ok (.if_icmp .ge 12, 3) := by decide +kernel
theorem dX9_again_9 : decode cX9_again 9 = .ok (.aload_n 0, 1) := by decide +kernel
theorem dX9_again_10 : decode cX9_again 10 = .ok (.getfield 16, 3) := by decide +kernel
theorem dX9_again_13 : decode cX9_again 13 = .ok (.iload_n 1, 1) := by decide +kernel
theorem dX9_again_14 : decode cX9_again 14 = .ok (.aaload, 1) := by decide +kernel
theorem dX9_again_15 : decode cX9_again 15 = .ok (.ifnonnull 5, 3) := by decide +kernel
theorem dX9_again_18 : decode cX9_again 18 = .ok (.iconst 0, 1) := by decide +kernel
theorem dX9_again_19 : decode cX9_again 19 = .ok (.ireturn, 1) := by decide +kernel
theorem dX9_image_0 : decode cX9_image 0 = .ok (.iload_n 1, 1) := by decide +kernel
theorem dX9_image_1 : decode cX9_image 1 = .ok (.ifCond .lt 8, 3) := by decide +kernel
theorem dX9_image_4 : decode cX9_image 4 = .ok (.iload_n 1, 1) := by decide +kernel
theorem dX9_image_5 : decode cX9_image 5 = .ok (.iconst 3, 1) := by decide +kernel
theorem dX9_image_6 : decode cX9_image 6 = .ok (.if_icmp .lt 5, 3) := by decide +kernel
theorem dX9_image_9 : decode cX9_image 9 = .ok (.iconst 0, 1) := by decide +kernel
theorem dX9_image_10 : decode cX9_image 10 = .ok (.ireturn, 1) := by decide +kernel
theorem dX9_image_11 : decode cX9_image 11 = .ok (.aload_n 0, 1) := by decide +kernel
theorem dX9_image_12 : decode cX9_image 12 = .ok (.getfield 16, 3) := by decide +kernel
theorem dX9_image_15 : decode cX9_image 15 = .ok (.iload_n 1, 1) := by decide +kernel
theorem dX9_image_16 : decode cX9_image 16 = .ok (.aaload, 1) := by decide +kernel
theorem dX9_image_17 : decode cX9_image 17 = .ok (.ifnonnull 16, 3) := by decide +kernel
theorem dX9_image_20 : decode cX9_image 20 = .ok (.aload_n 0, 1) := by decide +kernel
theorem dX9_image_21 : decode cX9_image 21 = .ok (.getfield 16, 3) := by decide +kernel
theorem dX9_image_24 : decode cX9_image 24 = .ok (.iload_n 1, 1) := by decide +kernel
theorem dX9_image_25 : decode cX9_image 25 = .ok (.new 9, 3) := by decide +kernel
theorem dX9_image_28 : decode cX9_image 28 = .ok (.dup, 1) := by decide +kernel
theorem dX9_image_29 : decode cX9_image 29 = .ok (.invokespecial 11, 3) := by decide +kernel
theorem dX9_image_32 : decode cX9_image 32 = .ok (.aastore, 1) := by decide +kernel
theorem dX9_image_33 : decode cX9_image 33 = .ok (.aload_n 0, 1) := by decide +kernel
theorem dX9_image_34 : decode cX9_image 34 = .ok (.getfield 16, 3) := by decide +kernel
theorem dX9_image_37 : decode cX9_image 37 = .ok (.iload_n 1, 1) := by decide +kernel
theorem dX9_image_38 : decode cX9_image 38 = .ok (.aaload, 1) := by decide +kernel
theorem dX9_image_39 : decode cX9_image 39 = .ok (.aload_n 0, 1) := by decide +kernel
theorem dX9_image_40 : decode cX9_image 40 = .ok (.getfield 12, 3) := by decide +kernel
theorem dX9_image_43 : decode cX9_image 43 = .ok (.invokevirtual 343, 3) := by decide +kernel
theorem dX9_image_46 : decode cX9_image 46 = .ok (.iconst 1, 1) := by decide +kernel
theorem dX9_image_47 : decode cX9_image 47 = .ok (.ireturn, 1) := by decide +kernel
end
section

theorem mlX9_343 : MLV RX9 343 yX8_copy cX8_copy 3 none 1 := ⟨TB_t 941 (by decide +kernel) rfl, TB_t 944 (by decide +kernel) rfl, TB_t 2 (by decide +kernel) rfl, ⟨by decide, by decide, by decide +kernel⟩, TB_t 942 (by decide +kernel) rfl, TB_t 943 (by decide +kernel) rfl⟩
end
section
theorem cpX8_54 : CPL RX8 54 := ⟨TB_t 945 (by decide +kernel) rfl, TB_t 562 (by decide +kernel) rfl, TB_t 561 (by decide +kernel) rfl, TB_t 19 (by decide +kernel) rfl⟩
set_option maxHeartbeats 4000000 in
set_option maxRecDepth 100000 in
theorem c_X8_copy {l : Launch} {D : va_G} {kA : Nat → ClassId} {M : mM} {T : mT} {sz : Nat} {v cs2 bs2 tp2 w cs bs tp : Nat} {f g : Nat → Int32} (hc_v : M v = some (.inr (6, [.int 0, .int 2, .int 0, .int 0, .int 0, .int 0, .int 0, .int (-1), .ref cs2, .ref bs2, .ref tp2]))) (hc_w : M w = some (.inr (6, [.int 0, .int 2, .int 0, .int 0, .int 0, .int 0, .int 0, .int (-1), .ref cs, .ref bs, .ref tp]))) (hc_cs2 : M cs2 = some (.inl (kA 0, 8, .inl g))) (hc_cs : M cs = some (.inl (kA 0, 8, .inl f))) (ht_tp : T tp = some 7) (ht_tp2 : T tp2 = some 7) (n_v_w : v ≠ w) (n_w_v : w ≠ v) (n_cs_cs2 : cs ≠ cs2) (n_cs2_cs : cs2 ≠ cs) : mCv l yX8_copy cX8_copy 3 1 0 0 D kA M T sz [.ref v, .ref w] (fun u => (True) ∧ u.2 = T ∧ (∀ q, q ≠ v → q ≠ cs2 → u.1 q = M q)) := by
  unfold mCv
  refine start_W (by decide) (Nat.le_of_ble_eq_true rfl) ?_
  intro p e s m below meth c ls hC hr hlk hnm hK hH hsz hl
  have hx := hC.1
  have hb := hC.2.1
  have hl : lv_has ls 3 [(0, .ref v), (1, .ref w)] := hl
  have hF : ∀ q, q ≠ v → q ≠ cs2 → M q = M q := fun q _ _ => rfl
  have n_v_cs2 : v ≠ cs2 := neM hc_v hc_cs2 (by simp)
  have n_v_cs : v ≠ cs := neM hc_v hc_cs (by simp)
  have n_w_cs2 : w ≠ cs2 := neM hc_w hc_cs2 (by simp)
  have n_w_cs : w ≠ cs := neM hc_w hc_cs (by simp)
  have n_cs2_v : cs2 ≠ v := neM hc_cs2 hc_v (by simp)
  have n_cs2_w : cs2 ≠ w := neM hc_cs2 hc_w (by simp)
  have n_cs_v : cs ≠ v := neM hc_cs hc_v (by simp)
  have n_cs_w : cs ≠ w := neM hc_cs hc_w (by simp)
  refine lv_aload_n hx hb dX8_copy_0 rfl (lv_at hl 0 rfl) ?_
  refine lv_aload_n hx hb dX8_copy_1 rfl (lv_at hl 1 rfl) ?_
  refine xg hC hK hH flX8_29 hc_w rfl dX8_copy_2 ?_
  refine yp (v := .int 0) hC hK hH flX8_29 hc_v rfl rfl (Nat.le_of_ble_eq_true rfl) dX8_copy_5 (fun H locs M1 hc_v hfr hH => ?_)
  have hc_v : M1 v = some (.inr (6, [.int 0, .int 2, .int 0, .int 0, .int 0, .int 0, .int 0, .int (-1), .ref cs2, .ref bs2, .ref tp2])) := hc_v
  have hc_w : M1 w = some (.inr (6, [.int 0, .int 2, .int 0, .int 0, .int 0, .int 0, .int 0, .int (-1), .ref cs, .ref bs, .ref tp])) := (hfr w n_w_v).trans hc_w
  have hc_cs2 : M1 cs2 = some (.inl (kA 0, 8, .inl g)) := (hfr cs2 n_cs2_v).trans hc_cs2
  have hc_cs : M1 cs = some (.inl (kA 0, 8, .inl f)) := (hfr cs n_cs_v).trans hc_cs
  have hF : ∀ q, q ≠ v → q ≠ cs2 → M1 q = M q := fun q h0 h1 => (hfr q h0).trans (hF q h0 h1)
  refine lv_aload_n hx hb dX8_copy_8 rfl (lv_at hl 0 rfl) ?_
  refine lv_aload_n hx hb dX8_copy_9 rfl (lv_at hl 1 rfl) ?_
  refine xg hC hK hH flX8_33 hc_w rfl dX8_copy_10 ?_
  refine yp (v := .int 2) hC hK hH flX8_33 hc_v rfl rfl (Nat.le_of_ble_eq_true rfl) dX8_copy_13 (fun H locs M2 hc_v hfr hH => ?_)
  have hc_v : M2 v = some (.inr (6, [.int 0, .int 2, .int 0, .int 0, .int 0, .int 0, .int 0, .int (-1), .ref cs2, .ref bs2, .ref tp2])) := hc_v
  have hc_w : M2 w = some (.inr (6, [.int 0, .int 2, .int 0, .int 0, .int 0, .int 0, .int 0, .int (-1), .ref cs, .ref bs, .ref tp])) := (hfr w n_w_v).trans hc_w
  have hc_cs2 : M2 cs2 = some (.inl (kA 0, 8, .inl g)) := (hfr cs2 n_cs2_v).trans hc_cs2
  have hc_cs : M2 cs = some (.inl (kA 0, 8, .inl f)) := (hfr cs n_cs_v).trans hc_cs
  have hF : ∀ q, q ≠ v → q ≠ cs2 → M2 q = M q := fun q h0 h1 => (hfr q h0).trans (hF q h0 h1)
  refine lv_aload_n hx hb dX8_copy_16 rfl (lv_at hl 0 rfl) ?_
  refine lv_aload_n hx hb dX8_copy_17 rfl (lv_at hl 1 rfl) ?_
  refine xg hC hK hH flX8_36 hc_w rfl dX8_copy_18 ?_
  refine yp (v := .int 0) hC hK hH flX8_36 hc_v rfl rfl (Nat.le_of_ble_eq_true rfl) dX8_copy_21 (fun H locs M3 hc_v hfr hH => ?_)
  have hc_v : M3 v = some (.inr (6, [.int 0, .int 2, .int 0, .int 0, .int 0, .int 0, .int 0, .int (-1), .ref cs2, .ref bs2, .ref tp2])) := hc_v
  have hc_w : M3 w = some (.inr (6, [.int 0, .int 2, .int 0, .int 0, .int 0, .int 0, .int 0, .int (-1), .ref cs, .ref bs, .ref tp])) := (hfr w n_w_v).trans hc_w
  have hc_cs2 : M3 cs2 = some (.inl (kA 0, 8, .inl g)) := (hfr cs2 n_cs2_v).trans hc_cs2
  have hc_cs : M3 cs = some (.inl (kA 0, 8, .inl f)) := (hfr cs n_cs_v).trans hc_cs
  have hF : ∀ q, q ≠ v → q ≠ cs2 → M3 q = M q := fun q h0 h1 => (hfr q h0).trans (hF q h0 h1)
  refine lv_aload_n hx hb dX8_copy_24 rfl (lv_at hl 0 rfl) ?_
  refine lv_aload_n hx hb dX8_copy_25 rfl (lv_at hl 1 rfl) ?_
  refine xg hC hK hH flX8_39 hc_w rfl dX8_copy_26 ?_
  refine yp (v := .int 0) hC hK hH flX8_39 hc_v rfl rfl (Nat.le_of_ble_eq_true rfl) dX8_copy_29 (fun H locs M4 hc_v hfr hH => ?_)
  have hc_v : M4 v = some (.inr (6, [.int 0, .int 2, .int 0, .int 0, .int 0, .int 0, .int 0, .int (-1), .ref cs2, .ref bs2, .ref tp2])) := hc_v
  have hc_w : M4 w = some (.inr (6, [.int 0, .int 2, .int 0, .int 0, .int 0, .int 0, .int 0, .int (-1), .ref cs, .ref bs, .ref tp])) := (hfr w n_w_v).trans hc_w
  have hc_cs2 : M4 cs2 = some (.inl (kA 0, 8, .inl g)) := (hfr cs2 n_cs2_v).trans hc_cs2
  have hc_cs : M4 cs = some (.inl (kA 0, 8, .inl f)) := (hfr cs n_cs_v).trans hc_cs
  have hF : ∀ q, q ≠ v → q ≠ cs2 → M4 q = M q := fun q h0 h1 => (hfr q h0).trans (hF q h0 h1)
  refine lv_aload_n hx hb dX8_copy_32 rfl (lv_at hl 0 rfl) ?_
  refine lv_aload_n hx hb dX8_copy_33 rfl (lv_at hl 1 rfl) ?_
  refine xg hC hK hH flX8_42 hc_w rfl dX8_copy_34 ?_
  refine yp (v := .int 0) hC hK hH flX8_42 hc_v rfl rfl (Nat.le_of_ble_eq_true rfl) dX8_copy_37 (fun H locs M5 hc_v hfr hH => ?_)
  have hc_v : M5 v = some (.inr (6, [.int 0, .int 2, .int 0, .int 0, .int 0, .int 0, .int 0, .int (-1), .ref cs2, .ref bs2, .ref tp2])) := hc_v
  have hc_w : M5 w = some (.inr (6, [.int 0, .int 2, .int 0, .int 0, .int 0, .int 0, .int 0, .int (-1), .ref cs, .ref bs, .ref tp])) := (hfr w n_w_v).trans hc_w
  have hc_cs2 : M5 cs2 = some (.inl (kA 0, 8, .inl g)) := (hfr cs2 n_cs2_v).trans hc_cs2
  have hc_cs : M5 cs = some (.inl (kA 0, 8, .inl f)) := (hfr cs n_cs_v).trans hc_cs
  have hF : ∀ q, q ≠ v → q ≠ cs2 → M5 q = M q := fun q h0 h1 => (hfr q h0).trans (hF q h0 h1)
  refine lv_aload_n hx hb dX8_copy_40 rfl (lv_at hl 0 rfl) ?_
  refine lv_aload_n hx hb dX8_copy_41 rfl (lv_at hl 1 rfl) ?_
  refine xg hC hK hH flX8_45 hc_w rfl dX8_copy_42 ?_
  refine yp (v := .int 0) hC hK hH flX8_45 hc_v rfl rfl (Nat.le_of_ble_eq_true rfl) dX8_copy_45 (fun H locs M6 hc_v hfr hH => ?_)
  have hc_v : M6 v = some (.inr (6, [.int 0, .int 2, .int 0, .int 0, .int 0, .int 0, .int 0, .int (-1), .ref cs2, .ref bs2, .ref tp2])) := hc_v
  have hc_w : M6 w = some (.inr (6, [.int 0, .int 2, .int 0, .int 0, .int 0, .int 0, .int 0, .int (-1), .ref cs, .ref bs, .ref tp])) := (hfr w n_w_v).trans hc_w
  have hc_cs2 : M6 cs2 = some (.inl (kA 0, 8, .inl g)) := (hfr cs2 n_cs2_v).trans hc_cs2
  have hc_cs : M6 cs = some (.inl (kA 0, 8, .inl f)) := (hfr cs n_cs_v).trans hc_cs
  have hF : ∀ q, q ≠ v → q ≠ cs2 → M6 q = M q := fun q h0 h1 => (hfr q h0).trans (hF q h0 h1)
  refine lv_aload_n hx hb dX8_copy_48 rfl (lv_at hl 0 rfl) ?_
  refine lv_aload_n hx hb dX8_copy_49 rfl (lv_at hl 1 rfl) ?_
  refine xg hC hK hH flX8_48 hc_w rfl dX8_copy_50 ?_
  refine yp (v := .int 0) hC hK hH flX8_48 hc_v rfl rfl (Nat.le_of_ble_eq_true rfl) dX8_copy_53 (fun H locs M7 hc_v hfr hH => ?_)
  have hc_v : M7 v = some (.inr (6, [.int 0, .int 2, .int 0, .int 0, .int 0, .int 0, .int 0, .int (-1), .ref cs2, .ref bs2, .ref tp2])) := hc_v
  have hc_w : M7 w = some (.inr (6, [.int 0, .int 2, .int 0, .int 0, .int 0, .int 0, .int 0, .int (-1), .ref cs, .ref bs, .ref tp])) := (hfr w n_w_v).trans hc_w
  have hc_cs2 : M7 cs2 = some (.inl (kA 0, 8, .inl g)) := (hfr cs2 n_cs2_v).trans hc_cs2
  have hc_cs : M7 cs = some (.inl (kA 0, 8, .inl f)) := (hfr cs n_cs_v).trans hc_cs
  have hF : ∀ q, q ≠ v → q ≠ cs2 → M7 q = M q := fun q h0 h1 => (hfr q h0).trans (hF q h0 h1)
  refine lv_aload_n hx hb dX8_copy_56 rfl (lv_at hl 0 rfl) ?_
  refine lv_aload_n hx hb dX8_copy_57 rfl (lv_at hl 1 rfl) ?_
  refine xg hC hK hH flX8_51 hc_w rfl dX8_copy_58 ?_
  refine yp (v := .int (-1)) hC hK hH flX8_51 hc_v rfl rfl (Nat.le_of_ble_eq_true rfl) dX8_copy_61 (fun H locs M8 hc_v hfr hH => ?_)
  have hc_v : M8 v = some (.inr (6, [.int 0, .int 2, .int 0, .int 0, .int 0, .int 0, .int 0, .int (-1), .ref cs2, .ref bs2, .ref tp2])) := hc_v
  have hc_w : M8 w = some (.inr (6, [.int 0, .int 2, .int 0, .int 0, .int 0, .int 0, .int 0, .int (-1), .ref cs, .ref bs, .ref tp])) := (hfr w n_w_v).trans hc_w
  have hc_cs2 : M8 cs2 = some (.inl (kA 0, 8, .inl g)) := (hfr cs2 n_cs2_v).trans hc_cs2
  have hc_cs : M8 cs = some (.inl (kA 0, 8, .inl f)) := (hfr cs n_cs_v).trans hc_cs
  have hF : ∀ q, q ≠ v → q ≠ cs2 → M8 q = M q := fun q h0 h1 => (hfr q h0).trans (hF q h0 h1)
  refine lv_aload_n hx hb dX8_copy_64 rfl (lv_at hl 1 rfl) ?_
  refine xg hC hK hH flX8_9 hc_w rfl dX8_copy_65 ?_
  refine lv_iconst (v := 0) hx hb dX8_copy_68 (by decide) ?_
  refine lv_aload_n hx hb dX8_copy_69 rfl (lv_at hl 0 rfl) ?_
  refine xg hC hK hH flX8_9 hc_v rfl dX8_copy_70 ?_
  refine lv_iconst (v := 0) hx hb dX8_copy_73 (by decide) ?_
  refine lv_bipush (v := 8) hx hb dX8_copy_74 (by decide) ?_
  refine ycpy hC hK hH hl.1 cpX8_54 hc_cs hc_cs2 (by decide) (by decide) (by decide) (Nat.le_of_ble_eq_true rfl) (Nat.le_of_ble_eq_true rfl) (Nat.le_of_ble_eq_true rfl) (Nat.le_of_ble_eq_true rfl) dX8_copy_76 (fun H locs M9 hc_cs2 hfr hH => ?_)
  have hc_cs2 : M9 cs2 = some (.inl (kA 0, 8, .inl (va_cpy f g (Int32.toNatClampNeg 0) (Int32.toNatClampNeg 0) (Int32.toNatClampNeg 8)))) := hc_cs2
  have hc_v : M9 v = some (.inr (6, [.int 0, .int 2, .int 0, .int 0, .int 0, .int 0, .int 0, .int (-1), .ref cs2, .ref bs2, .ref tp2])) := (hfr v n_v_cs2).trans hc_v
  have hc_w : M9 w = some (.inr (6, [.int 0, .int 2, .int 0, .int 0, .int 0, .int 0, .int 0, .int (-1), .ref cs, .ref bs, .ref tp])) := (hfr w n_w_cs2).trans hc_w
  have hc_cs : M9 cs = some (.inl (kA 0, 8, .inl f)) := (hfr cs n_cs_cs2).trans hc_cs
  have hF : ∀ q, q ≠ v → q ≠ cs2 → M9 q = M q := fun q h0 h1 => (hfr q h1).trans (hF q h0 h1)
  refine lv_aload_n hx hb dX8_copy_79 rfl (lv_at hl 1 rfl) ?_
  refine xg hC hK hH flX8_21 hc_w rfl dX8_copy_80 ?_
  refine lv_iconst (v := 0) hx hb dX8_copy_83 (by decide) ?_
  refine lv_aload_n hx hb dX8_copy_84 rfl (lv_at hl 0 rfl) ?_
  refine xg hC hK hH flX8_21 hc_v rfl dX8_copy_85 ?_
  refine lv_iconst (v := 0) hx hb dX8_copy_88 (by decide) ?_
  refine lv_sipush (v := 600) hx hb dX8_copy_89 (by decide) ?_
  refine tcpy hC hK hH hl.1 cpX8_54 ht_tp ht_tp2 rfl rfl rfl (fun _ h1 h2 => fit8 h1 h2) (by decide) (by decide) (by decide) (Nat.le_of_ble_eq_true rfl) (Nat.le_of_ble_eq_true rfl) (Nat.le_of_ble_eq_true rfl) (Nat.le_of_ble_eq_true rfl) dX8_copy_92 (fun H locs hH => ?_)
  refine lv_iconst (v := 0) hx hb dX8_copy_95 (by decide) ?_
  refine lv_istore_n (lv' := [(2, .int 0), (0, .ref v), (1, .ref w)]) hx hb dX8_copy_96 rfl hl (by decide) rfl (fun ls hl => ?_)
  refine lv_iload_n hx hb dX8_copy_97 rfl (lv_at hl 0 rfl) ?_
  refine lv_iconst (v := 4) hx hb dX8_copy_98 (by decide) ?_
  refine jic_ge (tgt := 131) hx hb dX8_copy_99 (by decide) (fun c10 => absurd c10 (by decide)) (fun c10 => ?_)
  refine lv_iload_n hx hb dX8_copy_102 rfl (lv_at hl 0 rfl) ?_
  refine lv_aload_n hx hb dX8_copy_103 rfl (lv_at hl 2 rfl) ?_
  refine xg hC hK hH flX8_36 hc_w rfl dX8_copy_104 ?_
  refine jic_ge (tgt := 131) hx hb dX8_copy_107 (by decide) (fun c11 => ?_) (fun c11 => absurd c11 (by decide))
  exact ret_v hC hr hlk hK hH (⟨trivial, rfl, hF⟩) (Nat.le_of_ble_eq_true rfl) (Nat.le_of_ble_eq_true rfl) dX8_copy_131
set_option maxHeartbeats 4000000 in
set_option maxRecDepth 100000 in
theorem c_X9_again {l : Launch} {D : va_G} {kA : Nat → ClassId} {M : mM} {T : mT} {sz : Nat} {ro im rd rc cu : Nat} {w cs bs tp : Nat} {k : Int32} (hc_ro : M ro = some (.inr (7, [.ref w, .ref im, .ref rd, .ref rc, .ref cu]))) (hc_w : M w = some (.inr (6, [.int 0, .int 2, .int 0, .int 0, .int 0, .int 0, .int 0, .int (-1), .ref cs, .ref bs, .ref tp]))) (hc_im : M im = some (.inl (kA 6, 3, .inr (.inr (.inr (.inr (fun _ => none))))))) : mCi l yX9_again cX9_again 2 (some .boolean) 0 0 0 D kA M T sz [.ref ro, .int k] (fun r u => (r = 0) ∧ u.2 = T ∧ u.1 = M) := by
  unfold mCi
  refine start_W (by decide) (Nat.le_of_ble_eq_true rfl) ?_
  intro p e s m below meth c ls hC hr hlk hnm hK hH hsz hl
  have hx := hC.1
  have hb := hC.2.1
  have hl : lv_has ls 2 [(0, .ref ro), (1, .int k)] := hl
  have n_ro_w : ro ≠ w := neM hc_ro hc_w (by simp)
  have n_ro_im : ro ≠ im := neM hc_ro hc_im (by simp)
  have n_w_ro : w ≠ ro := neM hc_w hc_ro (by simp)
  have n_w_im : w ≠ im := neM hc_w hc_im (by simp)
  have n_im_ro : im ≠ ro := neM hc_im hc_ro (by simp)
  have n_im_w : im ≠ w := neM hc_im hc_w (by simp)
  refine lv_iload_n hx hb dX9_again_0 rfl (lv_at hl 1 rfl) ?_
  refine jif_lt (tgt := 18) hx hb dX9_again_1 (by decide) (fun c1 => ?_) (fun c1 => ?_)
  · skip
    have c1 : k.toInt < 0 := c1
    refine lv_iconst (v := 0) hx hb dX9_again_18 (by decide) ?_
    exact ret_z hC hr hlk hK hH (by first | exact Or.inl rfl | exact Or.inr rfl | assumption) (⟨rfl, rfl, rfl⟩) (Nat.le_of_ble_eq_true rfl) (Nat.le_of_ble_eq_true rfl) dX9_again_19
  · skip
    have c1 : 0 ≤ k.toInt := c1
    refine lv_iload_n hx hb dX9_again_4 rfl (lv_at hl 1 rfl) ?_
    refine lv_iconst (v := 3) hx hb dX9_again_5 (by decide) ?_
    refine jic_ge (tgt := 18) hx hb dX9_again_6 (by decide) (fun c2 => ?_) (fun c2 => ?_)
    · skip
      have c2 : 3 ≤ k.toInt := c2
      refine lv_iconst (v := 0) hx hb dX9_again_18 (by decide) ?_
      exact ret_z hC hr hlk hK hH (by first | exact Or.inl rfl | exact Or.inr rfl | assumption) (⟨rfl, rfl, rfl⟩) (Nat.le_of_ble_eq_true rfl) (Nat.le_of_ble_eq_true rfl) dX9_again_19
    · skip
      have c2 : k.toInt < 3 := c2
      refine lv_aload_n hx hb dX9_again_9 rfl (lv_at hl 0 rfl) ?_
      refine xg hC hK hH flX9_16 hc_ro rfl dX9_again_10 ?_
      refine lv_iload_n hx hb dX9_again_13 rfl (lv_at hl 1 rfl) ?_
      refine xqld (ck := 6) hC hK hH rfl hc_im (iIn (by omega) (by omega)) dX9_again_14 ?_
      refine lv_qn rfl ?_
      refine lv_ifnonnullN hx hb dX9_again_15 ?_
      refine lv_iconst (v := 0) hx hb dX9_again_18 (by decide) ?_
      exact ret_z hC hr hlk hK hH (by first | exact Or.inl rfl | exact Or.inr rfl | assumption) (⟨rfl, rfl, rfl⟩) (Nat.le_of_ble_eq_true rfl) (Nat.le_of_ble_eq_true rfl) dX9_again_19
set_option maxHeartbeats 4000000 in
set_option maxRecDepth 100000 in
theorem c_X9_image {l : Launch} {D : va_G} {kA : Nat → ClassId} {M : mM} {T : mT} {sz : Nat} {ro im rd rc cu : Nat} {w cs bs tp : Nat} {k : Int32} {f : Nat → Int32} (hc_ro : M ro = some (.inr (7, [.ref w, .ref im, .ref rd, .ref rc, .ref cu]))) (hc_w : M w = some (.inr (6, [.int 0, .int 2, .int 0, .int 0, .int 0, .int 0, .int 0, .int (-1), .ref cs, .ref bs, .ref tp]))) (hc_cs : M cs = some (.inl (kA 0, 8, .inl (c100 f)))) (hc_im : M im = some (.inl (kA 6, 3, .inr (.inr (.inr (.inr (fun _ => none))))))) (ht_tp : T tp = some 7) : mCi l yX9_image cX9_image 2 (some .boolean) 4 92 1627 D kA M T sz [.ref ro, .int k] (fun r u => (((0 ≤ k.toInt ∧ k.toInt ≤ 2) ∧ r = 1) ∨ (¬ (0 ≤ k.toInt ∧ k.toInt ≤ 2) ∧ r = 0)) ∧ (∀ a t, T a = some t → u.2 a = some t) ∧ ∀ a, a ≠ im → a < sz → u.1 a = M a) := by
  unfold mCi
  refine start_W (by decide) (Nat.le_of_ble_eq_true rfl) ?_
  intro p e s m below meth c ls hC hr hlk hnm hK hH hsz hl
  have hx := hC.1
  have hb := hC.2.1
  have hl : lv_has ls 2 [(0, .ref ro), (1, .int k)] := hl
  have hF : ∀ a, a ≠ im → a < sz → M a = M a := fun a _ _ => rfl
  have hTT : ∀ a t, T a = some t → T a = some t := fun _ _ h => h
  have n_ro_w : ro ≠ w := neM hc_ro hc_w (by simp)
  have n_ro_cs : ro ≠ cs := neM hc_ro hc_cs (by simp)
  have n_ro_im : ro ≠ im := neM hc_ro hc_im (by simp)
  have n_w_ro : w ≠ ro := neM hc_w hc_ro (by simp)
  have n_w_cs : w ≠ cs := neM hc_w hc_cs (by simp)
  have n_w_im : w ≠ im := neM hc_w hc_im (by simp)
  have n_cs_ro : cs ≠ ro := neM hc_cs hc_ro (by simp)
  have n_cs_w : cs ≠ w := neM hc_cs hc_w (by simp)
  have n_cs_im : cs ≠ im := neM hc_cs hc_im (by simp)
  have n_im_ro : im ≠ ro := neM hc_im hc_ro (by simp)
  have n_im_w : im ≠ w := neM hc_im hc_w (by simp)
  have n_im_cs : im ≠ cs := neM hc_im hc_cs (by simp)
  refine lv_iload_n hx hb dX9_image_0 rfl (lv_at hl 1 rfl) ?_
  refine jif_lt (tgt := 9) hx hb dX9_image_1 (by decide) (fun c1 => ?_) (fun c1 => ?_)
  · skip
    have c1 : k.toInt < 0 := c1
    refine lv_iconst (v := 0) hx hb dX9_image_9 (by decide) ?_
    exact ret_z hC hr hlk hK hH (by first | exact Or.inl rfl | exact Or.inr rfl) (⟨Or.inr ⟨by omega, rfl⟩, hTT, hF⟩) (Nat.le_of_ble_eq_true rfl) (Nat.le_of_ble_eq_true rfl) dX9_image_10
  · skip
    have c1 : 0 ≤ k.toInt := c1
    refine lv_iload_n hx hb dX9_image_4 rfl (lv_at hl 1 rfl) ?_
    refine lv_iconst (v := 3) hx hb dX9_image_5 (by decide) ?_
    refine jic_lt (tgt := 11) hx hb dX9_image_6 (by decide) (fun c2 => ?_) (fun c2 => ?_)
    · skip
      have c2 : k.toInt < 3 := c2
      refine lv_aload_n hx hb dX9_image_11 rfl (lv_at hl 0 rfl) ?_
      refine xg hC hK hH flX9_16 hc_ro rfl dX9_image_12 ?_
      refine lv_iload_n hx hb dX9_image_15 rfl (lv_at hl 1 rfl) ?_
      refine xqld (ck := 6) hC hK hH rfl hc_im (iIn (by omega) (by omega)) dX9_image_16 ?_
      refine lv_qn rfl ?_
      refine lv_ifnonnullN hx hb dX9_image_17 ?_
      refine lv_aload_n hx hb dX9_image_20 rfl (lv_at hl 0 rfl) ?_
      refine xg hC hK hH flX9_16 hc_ro rfl dX9_image_21 ?_
      refine lv_iload_n hx hb dX9_image_24 rfl (lv_at hl 1 rfl) ?_
      refine ynew hC hK hH nlX9_9 (Nat.le_of_ble_eq_true rfl) (Nat.le_of_ble_eq_true rfl) dX9_image_25 (fun q3 H M4 e_q3 hz nM_q3 nT_q3 hc_q3 hfr hN => ?_)
      have g_q3 : sz ≤ q3 := by rw [← hsz, e_q3]; exact hH.2.1.1
      have n_ro_q3 : ro ≠ q3 := neN hc_ro nM_q3
      have n_q3_ro : q3 ≠ ro := Ne.symm n_ro_q3
      have n_w_q3 : w ≠ q3 := neN hc_w nM_q3
      have n_q3_w : q3 ≠ w := Ne.symm n_w_q3
      have n_cs_q3 : cs ≠ q3 := neN hc_cs nM_q3
      have n_q3_cs : q3 ≠ cs := Ne.symm n_cs_q3
      have n_im_q3 : im ≠ q3 := neN hc_im nM_q3
      have n_q3_im : q3 ≠ im := Ne.symm n_im_q3
      have hH := hN
      have hc_q3 : M4 q3 = some (.inr (6, [.int 0, .int 0, .int 0, .int 0, .int 0, .int 0, .int 0, .int 0, .null, .null, .null])) := hc_q3
      have hc_ro : M4 ro = some (.inr (7, [.ref w, .ref im, .ref rd, .ref rc, .ref cu])) := (hfr ro n_ro_q3).trans hc_ro
      have hc_w : M4 w = some (.inr (6, [.int 0, .int 2, .int 0, .int 0, .int 0, .int 0, .int 0, .int (-1), .ref cs, .ref bs, .ref tp])) := (hfr w n_w_q3).trans hc_w
      have hc_cs : M4 cs = some (.inl (kA 0, 8, .inl (c100 f))) := (hfr cs n_cs_q3).trans hc_cs
      have hc_im : M4 im = some (.inl (kA 6, 3, .inr (.inr (.inr (.inr (fun _ => none)))))) := (hfr im n_im_q3).trans hc_im
      have hF : ∀ a, a ≠ im → a < sz → M4 a = M a := fun a h0 h1 => (hfr a (Nat.ne_of_lt (Nat.lt_of_lt_of_le h1 g_q3))).trans (hF a h0 h1)
      refine lv_dup hx hb dX9_image_28 rfl ?_
      have lt_q3 : q3 < Array.size H := hH.1.ltM (by rw [hc_q3]; simp)
      have gH : sz ≤ Array.size H := by rw [← hsz]; exact hH.2.1.1
      have lt_ro : ro < Array.size H := hH.1.ltM (by rw [hc_ro]; simp)
      have lt_w : w < Array.size H := hH.1.ltM (by rw [hc_w]; simp)
      have lt_cs : cs < Array.size H := hH.1.ltM (by rw [hc_cs]; simp)
      have lt_im : im < Array.size H := hH.1.ltM (by rw [hc_im]; simp)
      have lt_q3 : q3 < Array.size H := hH.1.ltM (by rw [hc_q3]; simp)
      refine goV hK hH (runI (As := []) (rest := [.ref q3, .int k, .ref im]) hC hK hH (c_X8_init hc_q3 lt_q3) mlX9_11 ⟨⟨Nat.le_of_ble_eq_true rfl, Nat.le_of_ble_eq_true rfl⟩, Nat.le_of_ble_eq_true rfl, Nat.le_of_ble_eq_true rfl⟩ rfl hl.1 rfl (Nat.le_of_ble_eq_true rfl) dX9_image_29) (fun M5 T6 H locs hP hz hH => ?_)
      try dsimp only at hP
      obtain ⟨cs7, bs8, tp9, hc_q3, hc_cs7, t_bs8, t_tp9, g_cs7, g_bs8, g_tp9, hsub, hfr⟩ := hP
      have n_ro_cs7 : ro ≠ cs7 := Nat.ne_of_lt (Nat.lt_of_lt_of_le lt_ro g_cs7)
      have n_cs7_ro : cs7 ≠ ro := Ne.symm n_ro_cs7
      have n_w_cs7 : w ≠ cs7 := Nat.ne_of_lt (Nat.lt_of_lt_of_le lt_w g_cs7)
      have n_cs7_w : cs7 ≠ w := Ne.symm n_w_cs7
      have n_cs_cs7 : cs ≠ cs7 := Nat.ne_of_lt (Nat.lt_of_lt_of_le lt_cs g_cs7)
      have n_cs7_cs : cs7 ≠ cs := Ne.symm n_cs_cs7
      have n_im_cs7 : im ≠ cs7 := Nat.ne_of_lt (Nat.lt_of_lt_of_le lt_im g_cs7)
      have n_cs7_im : cs7 ≠ im := Ne.symm n_im_cs7
      have n_q3_cs7 : q3 ≠ cs7 := Nat.ne_of_lt (Nat.lt_of_lt_of_le lt_q3 g_cs7)
      have n_cs7_q3 : cs7 ≠ q3 := Ne.symm n_q3_cs7
      have n_ro_bs8 : ro ≠ bs8 := Nat.ne_of_lt (Nat.lt_of_lt_of_le lt_ro g_bs8)
      have n_bs8_ro : bs8 ≠ ro := Ne.symm n_ro_bs8
      have n_w_bs8 : w ≠ bs8 := Nat.ne_of_lt (Nat.lt_of_lt_of_le lt_w g_bs8)
      have n_bs8_w : bs8 ≠ w := Ne.symm n_w_bs8
      have n_cs_bs8 : cs ≠ bs8 := Nat.ne_of_lt (Nat.lt_of_lt_of_le lt_cs g_bs8)
      have n_bs8_cs : bs8 ≠ cs := Ne.symm n_cs_bs8
      have n_im_bs8 : im ≠ bs8 := Nat.ne_of_lt (Nat.lt_of_lt_of_le lt_im g_bs8)
      have n_bs8_im : bs8 ≠ im := Ne.symm n_im_bs8
      have n_q3_bs8 : q3 ≠ bs8 := Nat.ne_of_lt (Nat.lt_of_lt_of_le lt_q3 g_bs8)
      have n_bs8_q3 : bs8 ≠ q3 := Ne.symm n_q3_bs8
      have n_ro_tp9 : ro ≠ tp9 := Nat.ne_of_lt (Nat.lt_of_lt_of_le lt_ro g_tp9)
      have n_tp9_ro : tp9 ≠ ro := Ne.symm n_ro_tp9
      have n_w_tp9 : w ≠ tp9 := Nat.ne_of_lt (Nat.lt_of_lt_of_le lt_w g_tp9)
      have n_tp9_w : tp9 ≠ w := Ne.symm n_w_tp9
      have n_cs_tp9 : cs ≠ tp9 := Nat.ne_of_lt (Nat.lt_of_lt_of_le lt_cs g_tp9)
      have n_tp9_cs : tp9 ≠ cs := Ne.symm n_cs_tp9
      have n_im_tp9 : im ≠ tp9 := Nat.ne_of_lt (Nat.lt_of_lt_of_le lt_im g_tp9)
      have n_tp9_im : tp9 ≠ im := Ne.symm n_im_tp9
      have n_q3_tp9 : q3 ≠ tp9 := Nat.ne_of_lt (Nat.lt_of_lt_of_le lt_q3 g_tp9)
      have n_tp9_q3 : tp9 ≠ q3 := Ne.symm n_q3_tp9
      have hc_ro : M5 ro = some (.inr (7, [.ref w, .ref im, .ref rd, .ref rc, .ref cu])) := (hfr ro n_ro_q3 lt_ro).trans hc_ro
      have hc_w : M5 w = some (.inr (6, [.int 0, .int 2, .int 0, .int 0, .int 0, .int 0, .int 0, .int (-1), .ref cs, .ref bs, .ref tp])) := (hfr w n_w_q3 lt_w).trans hc_w
      have hc_cs : M5 cs = some (.inl (kA 0, 8, .inl (c100 f))) := (hfr cs n_cs_q3 lt_cs).trans hc_cs
      have hc_im : M5 im = some (.inl (kA 6, 3, .inr (.inr (.inr (.inr (fun _ => none)))))) := (hfr im n_im_q3 lt_im).trans hc_im
      have ht_tp : T6 tp = some 7 := hsub _ _ ht_tp
      have g_cs7 : sz ≤ cs7 := Nat.le_trans gH g_cs7
      have g_bs8 : sz ≤ bs8 := Nat.le_trans gH g_bs8
      have g_tp9 : sz ≤ tp9 := Nat.le_trans gH g_tp9
      have hTT : ∀ a t, T a = some t → T6 a = some t := fun a t h => hsub _ _ (hTT a t h)
      have hF : ∀ a, a ≠ im → a < sz → M5 a = M a := fun a h0 h1 => (hfr a (Nat.ne_of_lt (Nat.lt_of_lt_of_le h1 g_q3)) (Nat.lt_of_lt_of_le h1 gH)).trans (hF a h0 h1)
      refine yqst (ck := 6) (cv := 6) (v := q3) hC hK hH rfl rfl hc_im ⟨_, hH.1.1 _ _ hc_q3⟩ (iIn (by omega) (by omega)) dX9_image_32 (fun H locs M10 hc_im hfr hH => ?_)
      have hc_im : M10 im = some (.inl (kA 6, 3, .inr (.inr (.inr (.inr (va_up (fun _ => none) (Int32.toNatClampNeg k) (some q3))))))) := hc_im
      have hc_ro : M10 ro = some (.inr (7, [.ref w, .ref im, .ref rd, .ref rc, .ref cu])) := (hfr ro n_ro_im).trans hc_ro
      have hc_w : M10 w = some (.inr (6, [.int 0, .int 2, .int 0, .int 0, .int 0, .int 0, .int 0, .int (-1), .ref cs, .ref bs, .ref tp])) := (hfr w n_w_im).trans hc_w
      have hc_cs : M10 cs = some (.inl (kA 0, 8, .inl (c100 f))) := (hfr cs n_cs_im).trans hc_cs
      have hc_q3 : M10 q3 = some (.inr (6, [.int 0, .int 2, .int 0, .int 0, .int 0, .int 0, .int 0, .int (-1), .ref cs7, .ref bs8, .ref tp9])) := (hfr q3 n_q3_im).trans hc_q3
      have hc_cs7 : M10 cs7 = some (.inl (kA 0, 8, .inl (c100 (fun _ => 0)))) := (hfr cs7 n_cs7_im).trans hc_cs7
      have hF : ∀ a, a ≠ im → a < sz → M10 a = M a := fun a h0 h1 => (hfr a h0).trans (hF a h0 h1)
      refine lv_aload_n hx hb dX9_image_33 rfl (lv_at hl 0 rfl) ?_
      refine xg hC hK hH flX9_16 hc_ro rfl dX9_image_34 ?_
      refine lv_iload_n hx hb dX9_image_37 rfl (lv_at hl 1 rfl) ?_
      refine xqld (ck := 6) hC hK hH rfl hc_im (iIn (by omega) (by omega)) dX9_image_38 ?_
      refine lv_qr (upS _ _ _) ?_
      refine lv_aload_n hx hb dX9_image_39 rfl (lv_at hl 0 rfl) ?_
      refine xg hC hK hH flX9_12 hc_ro rfl dX9_image_40 ?_
      refine goV hK hH (runV (As := [.ref w]) (rest := []) hC hK hH (c_X8_copy hc_q3 hc_w hc_cs7 hc_cs ht_tp t_tp9 n_q3_w n_w_q3 n_cs_cs7 n_cs7_cs) mlX9_343 (rcvM hK hH hc_q3 rfl) ⟨⟨Nat.le_of_ble_eq_true rfl, Nat.le_of_ble_eq_true rfl⟩, Nat.le_of_ble_eq_true rfl, Nat.le_of_ble_eq_true rfl⟩ rfl hl.1 rfl (Nat.le_of_ble_eq_true rfl) dX9_image_43) (fun M11 T12 H locs hP hz hH => ?_)
      try dsimp only at hP
      obtain ⟨(-), eT, hfr⟩ := hP
      have eT := eT.symm; subst eT
      have hc_ro : M11 ro = some (.inr (7, [.ref w, .ref im, .ref rd, .ref rc, .ref cu])) := (hfr ro n_ro_q3 n_ro_cs7).trans hc_ro
      have hc_w : M11 w = some (.inr (6, [.int 0, .int 2, .int 0, .int 0, .int 0, .int 0, .int 0, .int (-1), .ref cs, .ref bs, .ref tp])) := (hfr w n_w_q3 n_w_cs7).trans hc_w
      have hc_cs : M11 cs = some (.inl (kA 0, 8, .inl (c100 f))) := (hfr cs n_cs_q3 n_cs_cs7).trans hc_cs
      have hc_im : M11 im = some (.inl (kA 6, 3, .inr (.inr (.inr (.inr (va_up (fun _ => none) (Int32.toNatClampNeg k) (some q3))))))) := (hfr im n_im_q3 n_im_cs7).trans hc_im
      have hF : ∀ a, a ≠ im → a < sz → M11 a = M a := fun a h0 h1 => (hfr a (Nat.ne_of_lt (Nat.lt_of_lt_of_le h1 g_q3)) (Nat.ne_of_lt (Nat.lt_of_lt_of_le h1 g_cs7))).trans (hF a h0 h1)
      refine lv_iconst (v := 1) hx hb dX9_image_46 (by decide) ?_
      exact ret_z hC hr hlk hK hH (by first | exact Or.inl rfl | exact Or.inr rfl) (⟨Or.inl ⟨by omega, rfl⟩, hTT, hF⟩) (Nat.le_of_ble_eq_true rfl) (Nat.le_of_ble_eq_true rfl) dX9_image_47
    · skip
      have c2 : 3 ≤ k.toInt := c2
      refine lv_iconst (v := 0) hx hb dX9_image_9 (by decide) ?_
      exact ret_z hC hr hlk hK hH (by first | exact Or.inl rfl | exact Or.inr rfl) (⟨Or.inr ⟨by omega, rfl⟩, hTT, hF⟩) (Nat.le_of_ble_eq_true rfl) (Nat.le_of_ble_eq_true rfl) dX9_image_10
end
