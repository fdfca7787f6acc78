section
-- ===== PART A: goes FIRST, ahead of the names: the tables' words, and 'selects' of the private methods out of them =====
/-- a private method of a class that the tables say can be made, by its rows of tables_1 -/
def lw_okq (q : MethodName × Nat) : Prop := (q.1.cls ≠ "java/lang/invoke/MethodHandle" ∧ q.1.cls ≠ "java/lang/invoke/VarHandle") ∧ Cond.instantiable q.1.cls q.2 ∈ tables_1 ∧ Cond.privateMethod q.1 ∈ tables_1 ∧ Cond.instanceMethod q.1 ∈ tables_1
theorem lw_p0 : lw_okq (⟨"NeededLists", "addToRow", "(JI)I"⟩, 9) := ⟨⟨by decide +kernel, by decide +kernel⟩, List.mem_of_getElem? (i := 24) (by decide +kernel), List.mem_of_getElem? (i := 102) (by decide +kernel), List.mem_of_getElem? (i := 103) (by decide +kernel)⟩
theorem lw_p1 : lw_okq (⟨"java/lang/Throwable", "fillInStackTrace", "(I)Ljava/lang/Throwable;"⟩, 6) := ⟨⟨by decide +kernel, by decide +kernel⟩, List.mem_of_getElem? (i := 144) (by decide +kernel), List.mem_of_getElem? (i := 142) (by decide +kernel), List.mem_of_getElem? (i := 143) (by decide +kernel)⟩
theorem lw_p2 : lw_okq (⟨"NeededLists", "checkRoom", "()V"⟩, 9) := ⟨⟨by decide +kernel, by decide +kernel⟩, List.mem_of_getElem? (i := 24) (by decide +kernel), List.mem_of_getElem? (i := 204) (by decide +kernel), List.mem_of_getElem? (i := 205) (by decide +kernel)⟩
theorem lw_p3 : lw_okq (⟨"NeededLists", "addList", "(LNeededLists$LazyList;)I"⟩, 9) := ⟨⟨by decide +kernel, by decide +kernel⟩, List.mem_of_getElem? (i := 24) (by decide +kernel), List.mem_of_getElem? (i := 265) (by decide +kernel), List.mem_of_getElem? (i := 266) (by decide +kernel)⟩
theorem lw_p4 : lw_okq (⟨"NeededLists", "listOf", "(I)LNeededLists$LazyList;"⟩, 9) := ⟨⟨by decide +kernel, by decide +kernel⟩, List.mem_of_getElem? (i := 24) (by decide +kernel), List.mem_of_getElem? (i := 322) (by decide +kernel), List.mem_of_getElem? (i := 323) (by decide +kernel)⟩
theorem lw_p5 : lw_okq (⟨"NeededLists", "otherList", "(LNeededLists$LazyList;I)LNeededLists$LazyList;"⟩, 9) := ⟨⟨by decide +kernel, by decide +kernel⟩, List.mem_of_getElem? (i := 24) (by decide +kernel), List.mem_of_getElem? (i := 529) (by decide +kernel), List.mem_of_getElem? (i := 530) (by decide +kernel)⟩
theorem lw_p6 : lw_okq (⟨"NeededLists$Chained", "workAhead", "(I)I"⟩, 9) := ⟨⟨by decide +kernel, by decide +kernel⟩, List.mem_of_getElem? (i := 290) (by decide +kernel), List.mem_of_getElem? (i := 705) (by decide +kernel), List.mem_of_getElem? (i := 706) (by decide +kernel)⟩
theorem lw_p7 : lw_okq (⟨"NeededLists$Runs", "lookThrough", "(I)I"⟩, 8) := ⟨⟨by decide +kernel, by decide +kernel⟩, List.mem_of_getElem? (i := 551) (by decide +kernel), List.mem_of_getElem? (i := 772) (by decide +kernel), List.mem_of_getElem? (i := 773) (by decide +kernel)⟩
theorem lw_p8 : lw_okq (⟨"NeededLists$Ordered", "sortPlaces", "()I"⟩, 7) := ⟨⟨by decide +kernel, by decide +kernel⟩, List.mem_of_getElem? (i := 533) (by decide +kernel), List.mem_of_getElem? (i := 816) (by decide +kernel), List.mem_of_getElem? (i := 817) (by decide +kernel)⟩
theorem lw_p9 : lw_okq (⟨"NeededLists$Ordered", "insertPlace", "(I)V"⟩, 7) := ⟨⟨by decide +kernel, by decide +kernel⟩, List.mem_of_getElem? (i := 533) (by decide +kernel), List.mem_of_getElem? (i := 821) (by decide +kernel), List.mem_of_getElem? (i := 822) (by decide +kernel)⟩
theorem lw_p10 : lw_okq (⟨"NeededLists$Rest", "findStart", "()I"⟩, 9) := ⟨⟨by decide +kernel, by decide +kernel⟩, List.mem_of_getElem? (i := 422) (by decide +kernel), List.mem_of_getElem? (i := 829) (by decide +kernel), List.mem_of_getElem? (i := 830) (by decide +kernel)⟩
theorem lw_p11 : lw_okq (⟨"NeededLists$Sieve", "lets", "(JI)Z"⟩, 9) := ⟨⟨by decide +kernel, by decide +kernel⟩, List.mem_of_getElem? (i := 457) (by decide +kernel), List.mem_of_getElem? (i := 846) (by decide +kernel), List.mem_of_getElem? (i := 847) (by decide +kernel)⟩
theorem lw_p12 : lw_okq (⟨"NeededLists", "finish", "(IJ)J"⟩, 9) := ⟨⟨by decide +kernel, by decide +kernel⟩, List.mem_of_getElem? (i := 24) (by decide +kernel), List.mem_of_getElem? (i := 855) (by decide +kernel), List.mem_of_getElem? (i := 856) (by decide +kernel)⟩
theorem lw_p13 : lw_okq (⟨"NeededListsModel", "fail", "(I)I"⟩, 32) := ⟨⟨by decide +kernel, by decide +kernel⟩, List.mem_of_getElem? (i := 910) (by decide +kernel), List.mem_of_getElem? (i := 1021) (by decide +kernel), List.mem_of_getElem? (i := 1022) (by decide +kernel)⟩
theorem lw_p14 : lw_okq (⟨"NeededListsModel", "made", "(IIIIJJ)I"⟩, 32) := ⟨⟨by decide +kernel, by decide +kernel⟩, List.mem_of_getElem? (i := 910) (by decide +kernel), List.mem_of_getElem? (i := 1033) (by decide +kernel), List.mem_of_getElem? (i := 1034) (by decide +kernel)⟩
theorem lw_p15 : lw_okq (⟨"NeededListsModel", "isList", "(I)Z"⟩, 32) := ⟨⟨by decide +kernel, by decide +kernel⟩, List.mem_of_getElem? (i := 910) (by decide +kernel), List.mem_of_getElem? (i := 1052) (by decide +kernel), List.mem_of_getElem? (i := 1053) (by decide +kernel)⟩
def lw_privs_1 : List (MethodName × Nat) := [(⟨"NeededLists", "addToRow", "(JI)I"⟩, 9), (⟨"java/lang/Throwable", "fillInStackTrace", "(I)Ljava/lang/Throwable;"⟩, 6), (⟨"NeededLists", "checkRoom", "()V"⟩, 9), (⟨"NeededLists", "addList", "(LNeededLists$LazyList;)I"⟩, 9), (⟨"NeededLists", "listOf", "(I)LNeededLists$LazyList;"⟩, 9), (⟨"NeededLists", "otherList", "(LNeededLists$LazyList;I)LNeededLists$LazyList;"⟩, 9), (⟨"NeededLists$Chained", "workAhead", "(I)I"⟩, 9), (⟨"NeededLists$Runs", "lookThrough", "(I)I"⟩, 8), (⟨"NeededLists$Ordered", "sortPlaces", "()I"⟩, 7), (⟨"NeededLists$Ordered", "insertPlace", "(I)V"⟩, 7), (⟨"NeededLists$Rest", "findStart", "()I"⟩, 9), (⟨"NeededLists$Sieve", "lets", "(JI)Z"⟩, 9), (⟨"NeededLists", "finish", "(IJ)J"⟩, 9), (⟨"NeededListsModel", "fail", "(I)I"⟩, 32), (⟨"NeededListsModel", "made", "(IIIIJJ)I"⟩, 32), (⟨"NeededListsModel", "isList", "(I)Z"⟩, 32)]
theorem lw_r1 : ∀ q ∈ lw_privs_1, lw_okq q := List.forall_mem_cons.mpr ⟨lw_p0, List.forall_mem_cons.mpr ⟨lw_p1, List.forall_mem_cons.mpr ⟨lw_p2, List.forall_mem_cons.mpr ⟨lw_p3, List.forall_mem_cons.mpr ⟨lw_p4, List.forall_mem_cons.mpr ⟨lw_p5, List.forall_mem_cons.mpr ⟨lw_p6, List.forall_mem_cons.mpr ⟨lw_p7, List.forall_mem_cons.mpr ⟨lw_p8, List.forall_mem_cons.mpr ⟨lw_p9, List.forall_mem_cons.mpr ⟨lw_p10, List.forall_mem_cons.mpr ⟨lw_p11, List.forall_mem_cons.mpr ⟨lw_p12, List.forall_mem_cons.mpr ⟨lw_p13, List.forall_mem_cons.mpr ⟨lw_p14, List.forall_mem_cons.mpr ⟨lw_p15, fun _ h => absurd h List.not_mem_nil⟩⟩⟩⟩⟩⟩⟩⟩⟩⟩⟩⟩⟩⟩⟩⟩
theorem lw_p16 : lw_okq (⟨"NeededListsModel", "some", "(III)I"⟩, 32) := ⟨⟨by decide +kernel, by decide +kernel⟩, List.mem_of_getElem? (i := 910) (by decide +kernel), List.mem_of_getElem? (i := 1068) (by decide +kernel), List.mem_of_getElem? (i := 1069) (by decide +kernel)⟩
theorem lw_p17 : lw_okq (⟨"NeededListsModel", "by", "(IIIJ)I"⟩, 32) := ⟨⟨by decide +kernel, by decide +kernel⟩, List.mem_of_getElem? (i := 910) (by decide +kernel), List.mem_of_getElem? (i := 1080) (by decide +kernel), List.mem_of_getElem? (i := 1081) (by decide +kernel)⟩
theorem lw_p18 : lw_okq (⟨"NeededListsModel", "begin", "()V"⟩, 32) := ⟨⟨by decide +kernel, by decide +kernel⟩, List.mem_of_getElem? (i := 910) (by decide +kernel), List.mem_of_getElem? (i := 1111) (by decide +kernel), List.mem_of_getElem? (i := 1112) (by decide +kernel)⟩
theorem lw_p19 : lw_okq (⟨"NeededListsModel", "reach", "(II)I"⟩, 32) := ⟨⟨by decide +kernel, by decide +kernel⟩, List.mem_of_getElem? (i := 910) (by decide +kernel), List.mem_of_getElem? (i := 1115) (by decide +kernel), List.mem_of_getElem? (i := 1116) (by decide +kernel)⟩
theorem lw_p20 : lw_okq (⟨"NeededListsModel", "meet", "(I)Z"⟩, 32) := ⟨⟨by decide +kernel, by decide +kernel⟩, List.mem_of_getElem? (i := 910) (by decide +kernel), List.mem_of_getElem? (i := 1122) (by decide +kernel), List.mem_of_getElem? (i := 1123) (by decide +kernel)⟩
theorem lw_p21 : lw_okq (⟨"NeededListsModel", "lookAtItem", "(II)I"⟩, 32) := ⟨⟨by decide +kernel, by decide +kernel⟩, List.mem_of_getElem? (i := 910) (by decide +kernel), List.mem_of_getElem? (i := 1126) (by decide +kernel), List.mem_of_getElem? (i := 1127) (by decide +kernel)⟩
theorem lw_p22 : lw_okq (⟨"NeededListsModel", "is", "(J)I"⟩, 32) := ⟨⟨by decide +kernel, by decide +kernel⟩, List.mem_of_getElem? (i := 910) (by decide +kernel), List.mem_of_getElem? (i := 1130) (by decide +kernel), List.mem_of_getElem? (i := 1131) (by decide +kernel)⟩
theorem lw_p23 : lw_okq (⟨"NeededListsModel", "ofItems", "(IIIIIJ)I"⟩, 32) := ⟨⟨by decide +kernel, by decide +kernel⟩, List.mem_of_getElem? (i := 910) (by decide +kernel), List.mem_of_getElem? (i := 1134) (by decide +kernel), List.mem_of_getElem? (i := 1135) (by decide +kernel)⟩
theorem lw_p24 : lw_okq (⟨"NeededListsModel", "needItem", "(II)I"⟩, 32) := ⟨⟨by decide +kernel, by decide +kernel⟩, List.mem_of_getElem? (i := 910) (by decide +kernel), List.mem_of_getElem? (i := 1138) (by decide +kernel), List.mem_of_getElem? (i := 1139) (by decide +kernel)⟩
theorem lw_p25 : lw_okq (⟨"NeededListsModel", "ownPlace", "(II)I"⟩, 32) := ⟨⟨by decide +kernel, by decide +kernel⟩, List.mem_of_getElem? (i := 910) (by decide +kernel), List.mem_of_getElem? (i := 1142) (by decide +kernel), List.mem_of_getElem? (i := 1143) (by decide +kernel)⟩
theorem lw_p26 : lw_okq (⟨"NeededListsModel", "op", "(IJJ)I"⟩, 32) := ⟨⟨by decide +kernel, by decide +kernel⟩, List.mem_of_getElem? (i := 910) (by decide +kernel), List.mem_of_getElem? (i := 1146) (by decide +kernel), List.mem_of_getElem? (i := 1147) (by decide +kernel)⟩
theorem lw_p27 : lw_okq (⟨"NeededListsModel", "lookAtRun", "(II)I"⟩, 32) := ⟨⟨by decide +kernel, by decide +kernel⟩, List.mem_of_getElem? (i := 910) (by decide +kernel), List.mem_of_getElem? (i := 1153) (by decide +kernel), List.mem_of_getElem? (i := 1154) (by decide +kernel)⟩
theorem lw_p28 : lw_okq (⟨"NeededListsModel", "as", "(I)I"⟩, 32) := ⟨⟨by decide +kernel, by decide +kernel⟩, List.mem_of_getElem? (i := 910) (by decide +kernel), List.mem_of_getElem? (i := 1157) (by decide +kernel), List.mem_of_getElem? (i := 1158) (by decide +kernel)⟩
theorem lw_p29 : lw_okq (⟨"NeededListsModel", "needCell", "(II)I"⟩, 32) := ⟨⟨by decide +kernel, by decide +kernel⟩, List.mem_of_getElem? (i := 910) (by decide +kernel), List.mem_of_getElem? (i := 1161) (by decide +kernel), List.mem_of_getElem? (i := 1162) (by decide +kernel)⟩
theorem lw_p30 : lw_okq (⟨"NeededListsModel", "lookAtCell", "(II)I"⟩, 32) := ⟨⟨by decide +kernel, by decide +kernel⟩, List.mem_of_getElem? (i := 910) (by decide +kernel), List.mem_of_getElem? (i := 1165) (by decide +kernel), List.mem_of_getElem? (i := 1166) (by decide +kernel)⟩
theorem lw_p31 : lw_okq (⟨"NeededListsModel", "like", "(IIZ)I"⟩, 32) := ⟨⟨by decide +kernel, by decide +kernel⟩, List.mem_of_getElem? (i := 910) (by decide +kernel), List.mem_of_getElem? (i := 1169) (by decide +kernel), List.mem_of_getElem? (i := 1170) (by decide +kernel)⟩
def lw_privs_2 : List (MethodName × Nat) := [(⟨"NeededListsModel", "some", "(III)I"⟩, 32), (⟨"NeededListsModel", "by", "(IIIJ)I"⟩, 32), (⟨"NeededListsModel", "begin", "()V"⟩, 32), (⟨"NeededListsModel", "reach", "(II)I"⟩, 32), (⟨"NeededListsModel", "meet", "(I)Z"⟩, 32), (⟨"NeededListsModel", "lookAtItem", "(II)I"⟩, 32), (⟨"NeededListsModel", "is", "(J)I"⟩, 32), (⟨"NeededListsModel", "ofItems", "(IIIIIJ)I"⟩, 32), (⟨"NeededListsModel", "needItem", "(II)I"⟩, 32), (⟨"NeededListsModel", "ownPlace", "(II)I"⟩, 32), (⟨"NeededListsModel", "op", "(IJJ)I"⟩, 32), (⟨"NeededListsModel", "lookAtRun", "(II)I"⟩, 32), (⟨"NeededListsModel", "as", "(I)I"⟩, 32), (⟨"NeededListsModel", "needCell", "(II)I"⟩, 32), (⟨"NeededListsModel", "lookAtCell", "(II)I"⟩, 32), (⟨"NeededListsModel", "like", "(IIZ)I"⟩, 32)]
theorem lw_r2 : ∀ q ∈ lw_privs_2, lw_okq q := List.forall_mem_cons.mpr ⟨lw_p16, List.forall_mem_cons.mpr ⟨lw_p17, List.forall_mem_cons.mpr ⟨lw_p18, List.forall_mem_cons.mpr ⟨lw_p19, List.forall_mem_cons.mpr ⟨lw_p20, List.forall_mem_cons.mpr ⟨lw_p21, List.forall_mem_cons.mpr ⟨lw_p22, List.forall_mem_cons.mpr ⟨lw_p23, List.forall_mem_cons.mpr ⟨lw_p24, List.forall_mem_cons.mpr ⟨lw_p25, List.forall_mem_cons.mpr ⟨lw_p26, List.forall_mem_cons.mpr ⟨lw_p27, List.forall_mem_cons.mpr ⟨lw_p28, List.forall_mem_cons.mpr ⟨lw_p29, List.forall_mem_cons.mpr ⟨lw_p30, List.forall_mem_cons.mpr ⟨lw_p31, fun _ h => absurd h List.not_mem_nil⟩⟩⟩⟩⟩⟩⟩⟩⟩⟩⟩⟩⟩⟩⟩⟩
theorem lw_p32 : lw_okq (⟨"NeededListsModel", "shares", "(II)I"⟩, 32) := ⟨⟨by decide +kernel, by decide +kernel⟩, List.mem_of_getElem? (i := 910) (by decide +kernel), List.mem_of_getElem? (i := 1173) (by decide +kernel), List.mem_of_getElem? (i := 1174) (by decide +kernel)⟩
theorem lw_p33 : lw_okq (⟨"NeededListsModel", "lookAtBoth", "(III)I"⟩, 32) := ⟨⟨by decide +kernel, by decide +kernel⟩, List.mem_of_getElem? (i := 910) (by decide +kernel), List.mem_of_getElem? (i := 1177) (by decide +kernel), List.mem_of_getElem? (i := 1178) (by decide +kernel)⟩
theorem lw_p34 : lw_okq (⟨"NeededListsModel", "lookOn", "(III)I"⟩, 32) := ⟨⟨by decide +kernel, by decide +kernel⟩, List.mem_of_getElem? (i := 910) (by decide +kernel), List.mem_of_getElem? (i := 1181) (by decide +kernel), List.mem_of_getElem? (i := 1182) (by decide +kernel)⟩
theorem lw_p35 : lw_okq (⟨"NeededListsModel", "isRight", "(IIJ)Z"⟩, 32) := ⟨⟨by decide +kernel, by decide +kernel⟩, List.mem_of_getElem? (i := 910) (by decide +kernel), List.mem_of_getElem? (i := 1185) (by decide +kernel), List.mem_of_getElem? (i := 1186) (by decide +kernel)⟩
theorem lw_p36 : lw_okq (⟨"NeededListsModel", "lookAtDuring", "(III)I"⟩, 32) := ⟨⟨by decide +kernel, by decide +kernel⟩, List.mem_of_getElem? (i := 910) (by decide +kernel), List.mem_of_getElem? (i := 1192) (by decide +kernel), List.mem_of_getElem? (i := 1193) (by decide +kernel)⟩
theorem lw_p37 : lw_okq (⟨"NeededListsModel", "lookAtJoin", "(III)I"⟩, 32) := ⟨⟨by decide +kernel, by decide +kernel⟩, List.mem_of_getElem? (i := 910) (by decide +kernel), List.mem_of_getElem? (i := 1196) (by decide +kernel), List.mem_of_getElem? (i := 1197) (by decide +kernel)⟩
theorem lw_p38 : lw_okq (⟨"NeededListsModel", "lookAtRound", "(II)I"⟩, 32) := ⟨⟨by decide +kernel, by decide +kernel⟩, List.mem_of_getElem? (i := 910) (by decide +kernel), List.mem_of_getElem? (i := 1200) (by decide +kernel), List.mem_of_getElem? (i := 1201) (by decide +kernel)⟩
theorem lw_p39 : lw_okq (⟨"NeededListsModel", "lookAtAll", "(III)I"⟩, 32) := ⟨⟨by decide +kernel, by decide +kernel⟩, List.mem_of_getElem? (i := 910) (by decide +kernel), List.mem_of_getElem? (i := 1204) (by decide +kernel), List.mem_of_getElem? (i := 1205) (by decide +kernel)⟩
theorem lw_p40 : lw_okq (⟨"NeededListsModel", "failed", "(I)J"⟩, 32) := ⟨⟨by decide +kernel, by decide +kernel⟩, List.mem_of_getElem? (i := 910) (by decide +kernel), List.mem_of_getElem? (i := 1208) (by decide +kernel), List.mem_of_getElem? (i := 1209) (by decide +kernel)⟩
theorem lw_p41 : lw_okq (⟨"NeededListsModel", "told", "(I)J"⟩, 32) := ⟨⟨by decide +kernel, by decide +kernel⟩, List.mem_of_getElem? (i := 910) (by decide +kernel), List.mem_of_getElem? (i := 1212) (by decide +kernel), List.mem_of_getElem? (i := 1213) (by decide +kernel)⟩
theorem lw_p42 : lw_okq (⟨"NeededListsModel", "out", "()J"⟩, 32) := ⟨⟨by decide +kernel, by decide +kernel⟩, List.mem_of_getElem? (i := 910) (by decide +kernel), List.mem_of_getElem? (i := 1216) (by decide +kernel), List.mem_of_getElem? (i := 1217) (by decide +kernel)⟩
theorem lw_p43 : lw_okq (⟨"NeededListsModel", "work", "(II)I"⟩, 32) := ⟨⟨by decide +kernel, by decide +kernel⟩, List.mem_of_getElem? (i := 910) (by decide +kernel), List.mem_of_getElem? (i := 1220) (by decide +kernel), List.mem_of_getElem? (i := 1221) (by decide +kernel)⟩
def lw_privs_3 : List (MethodName × Nat) := [(⟨"NeededListsModel", "shares", "(II)I"⟩, 32), (⟨"NeededListsModel", "lookAtBoth", "(III)I"⟩, 32), (⟨"NeededListsModel", "lookOn", "(III)I"⟩, 32), (⟨"NeededListsModel", "isRight", "(IIJ)Z"⟩, 32), (⟨"NeededListsModel", "lookAtDuring", "(III)I"⟩, 32), (⟨"NeededListsModel", "lookAtJoin", "(III)I"⟩, 32), (⟨"NeededListsModel", "lookAtRound", "(II)I"⟩, 32), (⟨"NeededListsModel", "lookAtAll", "(III)I"⟩, 32), (⟨"NeededListsModel", "failed", "(I)J"⟩, 32), (⟨"NeededListsModel", "told", "(I)J"⟩, 32), (⟨"NeededListsModel", "out", "()J"⟩, 32), (⟨"NeededListsModel", "work", "(II)I"⟩, 32)]
theorem lw_r3 : ∀ q ∈ lw_privs_3, lw_okq q := List.forall_mem_cons.mpr ⟨lw_p32, List.forall_mem_cons.mpr ⟨lw_p33, List.forall_mem_cons.mpr ⟨lw_p34, List.forall_mem_cons.mpr ⟨lw_p35, List.forall_mem_cons.mpr ⟨lw_p36, List.forall_mem_cons.mpr ⟨lw_p37, List.forall_mem_cons.mpr ⟨lw_p38, List.forall_mem_cons.mpr ⟨lw_p39, List.forall_mem_cons.mpr ⟨lw_p40, List.forall_mem_cons.mpr ⟨lw_p41, List.forall_mem_cons.mpr ⟨lw_p42, List.forall_mem_cons.mpr ⟨lw_p43, fun _ h => absurd h List.not_mem_nil⟩⟩⟩⟩⟩⟩⟩⟩⟩⟩⟩⟩
def lw_privs : List (MethodName × Nat) := lw_privs_1 ++ (lw_privs_2 ++ (lw_privs_3))
def lw_tbl : List Cond := k2_sels lw_privs ++ tables_1
theorem lw_privs_ok : ∀ q ∈ lw_privs, lw_okq q := by
  show ∀ q ∈ lw_privs_1 ++ (lw_privs_2 ++ (lw_privs_3)), lw_okq q
  exact List.forall_mem_append.mpr ⟨lw_r1, List.forall_mem_append.mpr ⟨lw_r2, lw_r3⟩⟩
end
section
/-! ===== BEGIN words of one list among another's, by their places ===== -/
theorem goodIn_r {big : List Cond} (ws : List Cond) (ps : List Nat) (hp : ws = ps.filterMap (fun i => big[i]?)) (h : ws.all goodWord = true) : GoodIn big ws := by
  intro w hw
  have h1 := List.all_eq_true.mp h w hw
  rw [hp] at hw
  obtain ⟨i, -, hi⟩ := List.mem_filterMap.mp hw
  have hm : w ∈ big := by first | exact List.mem_of_getElem? hi | exact List.getElem?_mem hi
  exact ⟨hm, good_of_word h1⟩
theorem goodIn_app {big a b : List Cond} (ha : GoodIn big a) (hb : GoodIn big b) : GoodIn big (a ++ b) := fun w h => (List.mem_append.mp h).elim (ha w) (hb w)
theorem goodIn_ca {big a b : List Cond} {c : Cond} (ha : GoodIn big (c :: a)) (hb : GoodIn big b) : GoodIn big (c :: (a ++ b)) := fun w h => (List.mem_cons.mp h).elim (fun e => ha w (List.mem_cons.mpr (Or.inl e))) (fun h => (List.mem_append.mp h).elim (fun h => ha w (List.mem_cons.mpr (Or.inr h))) (hb w))
theorem goodIn_sub {big ws : List Cond} (hm : ∀ w ∈ ws, w ∈ big) (h : ws.all goodWord = true) : GoodIn big ws := fun w hw => ⟨hm w hw, good_of_word (List.all_eq_true.mp h w hw)⟩
/-! ===== END ===== -/
end
section
def RX0 : String := "NeededLists$Chained"
def TX0 : u_T := fun k => match k with
  | 0 => ("NeededLists$LazyList", "meter", "LNeededLists$Meter;", true)
  | 1 => ("NeededLists$LazyList", "numbers", "[J", true)
  | 2 => ("NeededLists$LazyList", "marks", "[B", true)
  | 3 => ("NeededLists$LazyList", "met", "I", false)
  | 4 => ("NeededLists$LazyList", "close", "I", false)
  | 5 => ("NeededLists$Chained", "of", "LNeededLists$LazyList;", true)
  | 6 => ("NeededLists$Chained", "op", "I", true)
  | 7 => ("NeededLists$Chained", "c", "J", true)
  | _ => ("NeededLists$Chained", "start", "J", true)
def RX1 : String := "NeededLists$Combined"
def TX1 : u_T := fun k => match k with
  | 0 => ("NeededLists$LazyList", "meter", "LNeededLists$Meter;", true)
  | 1 => ("NeededLists$LazyList", "numbers", "[J", true)
  | 2 => ("NeededLists$LazyList", "marks", "[B", true)
  | 3 => ("NeededLists$LazyList", "met", "I", false)
  | 4 => ("NeededLists$LazyList", "close", "I", false)
  | 5 => ("NeededLists$Combined", "left", "LNeededLists$LazyList;", true)
  | 6 => ("NeededLists$Combined", "right", "LNeededLists$LazyList;", true)
  | 7 => ("NeededLists$Combined", "op", "I", true)
  | _ => ("NeededLists$Combined", "c", "J", true)
def RX2 : String := "NeededLists$Front"
def TX2 : u_T := fun k => match k with
  | 0 => ("NeededLists$LazyList", "meter", "LNeededLists$Meter;", true)
  | 1 => ("NeededLists$LazyList", "numbers", "[J", true)
  | 2 => ("NeededLists$LazyList", "marks", "[B", true)
  | 3 => ("NeededLists$LazyList", "met", "I", false)
  | 4 => ("NeededLists$LazyList", "close", "I", false)
  | 5 => ("NeededLists$Front", "of", "LNeededLists$LazyList;", true)
  | 6 => ("NeededLists$Front", "limit", "I", true)
  | 7 => ("NeededLists$Front", "cond", "I", true)
  | _ => ("NeededLists$Front", "c", "J", true)
def RX3 : String := "NeededLists$Given"
def TX3 : u_T := fun k => match k with
  | 0 => ("NeededLists$LazyList", "meter", "LNeededLists$Meter;", true)
  | 1 => ("NeededLists$LazyList", "numbers", "[J", true)
  | 2 => ("NeededLists$LazyList", "marks", "[B", true)
  | 3 => ("NeededLists$LazyList", "met", "I", false)
  | 4 => ("NeededLists$LazyList", "close", "I", false)
  | 5 => ("NeededLists$Given", "fates", "[B", true)
  | _ => ("NeededLists$Given", "behind", "I", true)
def RX4 : String := "NeededLists$Joined"
def TX4 : u_T := fun k => match k with
  | 0 => ("NeededLists$LazyList", "meter", "LNeededLists$Meter;", true)
  | 1 => ("NeededLists$LazyList", "numbers", "[J", true)
  | 2 => ("NeededLists$LazyList", "marks", "[B", true)
  | 3 => ("NeededLists$LazyList", "met", "I", false)
  | 4 => ("NeededLists$LazyList", "close", "I", false)
  | 5 => ("NeededLists$Joined", "left", "LNeededLists$LazyList;", true)
  | _ => ("NeededLists$Joined", "right", "LNeededLists$LazyList;", true)
def RX6 : String := "NeededLists$Meter"
def TX6 : u_T := fun k => match k with
  | 0 => ("NeededLists$Meter", "left", "I", false)
  | _ => ("NeededLists$Meter", "used", "I", false)
def RX7 : String := "NeededLists$Ordered"
def TX7 : u_T := fun k => match k with
  | 0 => ("NeededLists$LazyList", "meter", "LNeededLists$Meter;", true)
  | 1 => ("NeededLists$LazyList", "numbers", "[J", true)
  | 2 => ("NeededLists$LazyList", "marks", "[B", true)
  | 3 => ("NeededLists$LazyList", "met", "I", false)
  | 4 => ("NeededLists$LazyList", "close", "I", false)
  | 5 => ("NeededLists$Ordered", "of", "LNeededLists$LazyList;", true)
  | _ => ("NeededLists$Ordered", "places", "[I", true)
def RX8 : String := "NeededLists$Rest"
def TX8 : u_T := fun k => match k with
  | 0 => ("NeededLists$LazyList", "meter", "LNeededLists$Meter;", true)
  | 1 => ("NeededLists$LazyList", "numbers", "[J", true)
  | 2 => ("NeededLists$LazyList", "marks", "[B", true)
  | 3 => ("NeededLists$LazyList", "met", "I", false)
  | 4 => ("NeededLists$LazyList", "close", "I", false)
  | 5 => ("NeededLists$Rest", "of", "LNeededLists$LazyList;", true)
  | 6 => ("NeededLists$Rest", "cond", "I", true)
  | 7 => ("NeededLists$Rest", "c", "J", true)
  | _ => ("NeededLists$Rest", "start", "I", false)
def RX9 : String := "NeededLists$Runs"
def TX9 : u_T := fun k => match k with
  | 0 => ("NeededLists$LazyList", "meter", "LNeededLists$Meter;", true)
  | 1 => ("NeededLists$LazyList", "numbers", "[J", true)
  | 2 => ("NeededLists$LazyList", "marks", "[B", true)
  | 3 => ("NeededLists$LazyList", "met", "I", false)
  | 4 => ("NeededLists$LazyList", "close", "I", false)
  | 5 => ("NeededLists$Runs", "of", "LNeededLists$LazyList;", true)
  | 6 => ("NeededLists$Runs", "starts", "[I", true)
  | _ => ("NeededLists$Runs", "runEnd", "I", false)
def RX10 : String := "NeededLists$Sieve"
def TX10 : u_T := fun k => match k with
  | 0 => ("NeededLists$LazyList", "meter", "LNeededLists$Meter;", true)
  | 1 => ("NeededLists$LazyList", "numbers", "[J", true)
  | 2 => ("NeededLists$LazyList", "marks", "[B", true)
  | 3 => ("NeededLists$LazyList", "met", "I", false)
  | 4 => ("NeededLists$LazyList", "close", "I", false)
  | 5 => ("NeededLists$Sieve", "of", "LNeededLists$LazyList;", true)
  | 6 => ("NeededLists$Sieve", "cond", "I", true)
  | 7 => ("NeededLists$Sieve", "c", "J", true)
  | _ => ("NeededLists$Sieve", "places", "[I", true)
def RX11 : String := "NeededLists"
def TX11 : u_T := fun k => match k with
  | 0 => ("NeededLists", "meter", "LNeededLists$Meter;", true)
  | 1 => ("NeededLists", "made", "[LNeededLists$LazyList;", true)
  | 2 => ("NeededLists", "rowNumbers", "[J", true)
  | 3 => ("NeededLists", "rowFates", "[B", true)
  | 4 => ("NeededLists", "madeCount", "I", false)
  | 5 => ("NeededLists", "rowLength", "I", false)
  | 6 => ("NeededLists", "stepsOfAsk", "I", false)
  | 7 => ("NeededLists", "latestOutcome", "I", false)
  | _ => ("NeededLists", "latestError", "I", false)
def RX12 : String := "NeededListsModel"
def TX12 : u_T := fun k => match k with
  | 0 => ("NeededListsModel", "lists", "I", false)
  | 1 => ("NeededListsModel", "sort", "[I", true)
  | 2 => ("NeededListsModel", "first", "[I", true)
  | 3 => ("NeededListsModel", "second", "[I", true)
  | 4 => ("NeededListsModel", "code", "[I", true)
  | 5 => ("NeededListsModel", "number", "[J", true)
  | 6 => ("NeededListsModel", "other", "[J", true)
  | 7 => ("NeededListsModel", "cell", "[I", true)
  | 8 => ("NeededListsModel", "item", "[I", true)
  | 9 => ("NeededListsModel", "value", "[J", true)
  | 10 => ("NeededListsModel", "shareList", "[I", true)
  | 11 => ("NeededListsModel", "shareCell", "[I", true)
  | 12 => ("NeededListsModel", "many", "I", false)
  | 13 => ("NeededListsModel", "rowItem", "[I", true)
  | 14 => ("NeededListsModel", "rowValue", "[J", true)
  | 15 => ("NeededListsModel", "purse", "I", false)
  | 16 => ("NeededListsModel", "spent", "I", false)
  | 17 => ("NeededListsModel", "outcome", "I", false)
  | 18 => ("NeededListsModel", "error", "I", false)
  | 19 => ("NeededListsModel", "thrown", "I", false)
  | 20 => ("NeededListsModel", "givenItem", "[I", true)
  | 21 => ("NeededListsModel", "givenValue", "[J", true)
  | 22 => ("NeededListsModel", "opValue", "J", false)
  | 23 => ("NeededListsModel", "got", "I", false)
  | 24 => ("NeededListsModel", "gotAt", "I", false)
  | 25 => ("NeededListsModel", "gotValue", "J", false)
  | 26 => ("NeededListsModel", "becomes", "I", false)
  | 27 => ("NeededListsModel", "becomesList", "I", false)
  | 28 => ("NeededListsModel", "becomesCell", "I", false)
  | 29 => ("NeededListsModel", "runSize", "I", false)
  | 30 => ("NeededListsModel", "becomesValue", "J", false)
  | _ => ("NeededListsModel", "pile", "[I", true)
def tyX12 : Nat → FieldType := fun k => match k with
  | 0 => .int
  | 1 => .array .int
  | 2 => .array .int
  | 3 => .array .int
  | 4 => .array .int
  | 5 => .array .long
  | 6 => .array .long
  | 7 => .array .int
  | 8 => .array .int
  | 9 => .array .long
  | 10 => .array .int
  | 11 => .array .int
  | 12 => .int
  | 13 => .array .int
  | 14 => .array .long
  | 15 => .int
  | 16 => .int
  | 17 => .int
  | 18 => .int
  | 19 => .int
  | 20 => .array .int
  | 21 => .array .long
  | 22 => .long
  | 23 => .int
  | 24 => .int
  | 25 => .long
  | 26 => .int
  | 27 => .int
  | 28 => .int
  | 29 => .int
  | 30 => .long
  | _ => .array .int
abbrev wsX120 : List Cond := u_ws RX12 TX12 32
theorem nmX12 : ∀ a, a < 32 → ∀ b, b < 32 → a ≠ b → (TX12 a).2.1 ≠ (TX12 b).2.1 := by decide +kernel
theorem tyX12_ok : ∀ k, k < 32 → parseFieldDescriptor (TX12 k).2.2.1 = some (tyX12 k) := by decide +kernel
abbrev cX12_thrown : ByteArray := prog_14_method_2_code
def yX12_thrown : MethodName := ⟨RX12, "thrown", "()I"⟩
abbrev cX12_fail : ByteArray := prog_14_method_3_code
def yX12_fail : MethodName := ⟨RX12, "fail", "(I)I"⟩
abbrev cX12_isList : ByteArray := prog_14_method_4_code
def yX12_isList : MethodName := ⟨RX12, "isList", "(I)Z"⟩
abbrev cX12_made : ByteArray := prog_14_method_5_code
def yX12_made : MethodName := ⟨RX12, "made", "(IIIIJJ)I"⟩
abbrev cX12_put : ByteArray := prog_14_method_6_code
def yX12_put : MethodName := ⟨RX12, "put", "(J)I"⟩
abbrev cX12_hole : ByteArray := prog_14_method_7_code
def yX12_hole : MethodName := ⟨RX12, "hole", "(I)I"⟩
abbrev cX12_given : ByteArray := prog_14_method_8_code
def yX12_given : MethodName := ⟨RX12, "given", "(Z)I"⟩
abbrev cX12_count : ByteArray := prog_14_method_9_code
def yX12_count : MethodName := ⟨RX12, "count", "(JJ)I"⟩
abbrev cX12_isOp : ByteArray := prog_14_method_10_code
def yX12_isOp : MethodName := ⟨RX12, "isOp", "(I)Z"⟩
abbrev cX12_isCond : ByteArray := prog_14_method_11_code
def yX12_isCond : MethodName := ⟨RX12, "isCond", "(I)Z"⟩
abbrev cX12_iterate : ByteArray := prog_14_method_12_code
def yX12_iterate : MethodName := ⟨RX12, "iterate", "(IJJ)I"⟩
abbrev cX12_map : ByteArray := prog_14_method_13_code
def yX12_map : MethodName := ⟨RX12, "map", "(IIJ)I"⟩
abbrev cX12_both : ByteArray := prog_14_method_14_code
def yX12_both : MethodName := ⟨RX12, "both", "(III)I"⟩
abbrev cX12_scan : ByteArray := prog_14_method_15_code
def yX12_scan : MethodName := ⟨RX12, "scan", "(IIJ)I"⟩
abbrev cX12_some : ByteArray := prog_14_method_16_code
def yX12_some : MethodName := ⟨RX12, "some", "(III)I"⟩
abbrev cX12_take : ByteArray := prog_14_method_17_code
def yX12_take : MethodName := ⟨RX12, "take", "(II)I"⟩
abbrev cX12_drop : ByteArray := prog_14_method_18_code
def yX12_drop : MethodName := ⟨RX12, "drop", "(II)I"⟩
abbrev cX12_by : ByteArray := prog_14_method_19_code
def yX12_by : MethodName := ⟨RX12, "by", "(IIIJ)I"⟩
abbrev cX12_keep : ByteArray := prog_14_method_20_code
def yX12_keep : MethodName := ⟨RX12, "keep", "(IIJ)I"⟩
abbrev cX12_during : ByteArray := prog_14_method_21_code
def yX12_during : MethodName := ⟨RX12, "during", "(IIJ)I"⟩
abbrev cX12_after : ByteArray := prog_14_method_22_code
def yX12_after : MethodName := ⟨RX12, "after", "(IIJ)I"⟩
abbrev cX12_join : ByteArray := prog_14_method_23_code
def yX12_join : MethodName := ⟨RX12, "join", "(II)I"⟩
abbrev cX12_other : ByteArray := prog_14_method_24_code
def yX12_other : MethodName := ⟨RX12, "other", "(II)I"⟩
abbrev cX12_op : ByteArray := prog_14_method_25_code
def yX12_op : MethodName := ⟨RX12, "op", "(IJJ)I"⟩
abbrev cX12_floor : ByteArray := prog_14_method_26_code
def yX12_floor : MethodName := ⟨RX12, "floor", "(JJ)J"⟩
abbrev cX12_meets : ByteArray := prog_14_method_27_code
def yX12_meets : MethodName := ⟨RX12, "meets", "(IJJ)Z"⟩
abbrev cX12_place : ByteArray := prog_14_method_28_code
def yX12_place : MethodName := ⟨RX12, "place", "(II)I"⟩
abbrev cX12_needCell : ByteArray := prog_14_method_29_code
def yX12_needCell : MethodName := ⟨RX12, "needCell", "(II)I"⟩
abbrev cX12_ownPlace : ByteArray := prog_14_method_30_code
def yX12_ownPlace : MethodName := ⟨RX12, "ownPlace", "(II)I"⟩
abbrev cX12_needItem : ByteArray := prog_14_method_31_code
def yX12_needItem : MethodName := ⟨RX12, "needItem", "(II)I"⟩
abbrev cX12_as : ByteArray := prog_14_method_32_code
def yX12_as : MethodName := ⟨RX12, "as", "(I)I"⟩
abbrev cX12_shares : ByteArray := prog_14_method_33_code
def yX12_shares : MethodName := ⟨RX12, "shares", "(II)I"⟩
abbrev cX12_like : ByteArray := prog_14_method_34_code
def yX12_like : MethodName := ⟨RX12, "like", "(IIZ)I"⟩
abbrev cX12_lookAtCell : ByteArray := prog_14_method_35_code
def yX12_lookAtCell : MethodName := ⟨RX12, "lookAtCell", "(II)I"⟩
abbrev cX12_lookAtBoth : ByteArray := prog_14_method_36_code
def yX12_lookAtBoth : MethodName := ⟨RX12, "lookAtBoth", "(III)I"⟩
abbrev cX12_lookOn : ByteArray := prog_14_method_37_code
def yX12_lookOn : MethodName := ⟨RX12, "lookOn", "(III)I"⟩
abbrev cX12_isRight : ByteArray := prog_14_method_38_code
def yX12_isRight : MethodName := ⟨RX12, "isRight", "(IIJ)Z"⟩
abbrev cX12_lookAtDuring : ByteArray := prog_14_method_39_code
def yX12_lookAtDuring : MethodName := ⟨RX12, "lookAtDuring", "(III)I"⟩
abbrev cX12_lookAtJoin : ByteArray := prog_14_method_40_code
def yX12_lookAtJoin : MethodName := ⟨RX12, "lookAtJoin", "(III)I"⟩
abbrev cX12_lookAtRound : ByteArray := prog_14_method_41_code
def yX12_lookAtRound : MethodName := ⟨RX12, "lookAtRound", "(II)I"⟩
abbrev cX12_lookAtAll : ByteArray := prog_14_method_42_code
def yX12_lookAtAll : MethodName := ⟨RX12, "lookAtAll", "(III)I"⟩
abbrev cX12_lookAtRun : ByteArray := prog_14_method_43_code
def yX12_lookAtRun : MethodName := ⟨RX12, "lookAtRun", "(II)I"⟩
abbrev cX12_lookAtItem : ByteArray := prog_14_method_44_code
def yX12_lookAtItem : MethodName := ⟨RX12, "lookAtItem", "(II)I"⟩
abbrev cX12_is : ByteArray := prog_14_method_45_code
def yX12_is : MethodName := ⟨RX12, "is", "(J)I"⟩
abbrev cX12_ofItems : ByteArray := prog_14_method_46_code
def yX12_ofItems : MethodName := ⟨RX12, "ofItems", "(IIIIIJ)I"⟩
abbrev cX12_meet : ByteArray := prog_14_method_47_code
def yX12_meet : MethodName := ⟨RX12, "meet", "(I)Z"⟩
abbrev cX12_steps : ByteArray := prog_14_method_48_code
def yX12_steps : MethodName := ⟨RX12, "steps", "(I)I"⟩
abbrev cX12_begin : ByteArray := prog_14_method_49_code
def yX12_begin : MethodName := ⟨RX12, "begin", "()V"⟩
abbrev cX12_out : ByteArray := prog_14_method_50_code
def yX12_out : MethodName := ⟨RX12, "out", "()J"⟩
abbrev cX12_failed : ByteArray := prog_14_method_51_code
def yX12_failed : MethodName := ⟨RX12, "failed", "(I)J"⟩
abbrev cX12_reach : ByteArray := prog_14_method_52_code
def yX12_reach : MethodName := ⟨RX12, "reach", "(II)I"⟩
abbrev cX12_work : ByteArray := prog_14_method_53_code
def yX12_work : MethodName := ⟨RX12, "work", "(II)I"⟩
abbrev cX12_told : ByteArray := prog_14_method_54_code
def yX12_told : MethodName := ⟨RX12, "told", "(I)J"⟩
abbrev cX12_at : ByteArray := prog_14_method_55_code
def yX12_at : MethodName := ⟨RX12, "at", "(II)J"⟩
abbrev cX12_size : ByteArray := prog_14_method_56_code
def yX12_size : MethodName := ⟨RX12, "size", "(I)J"⟩
abbrev cX12_fold : ByteArray := prog_14_method_57_code
def yX12_fold : MethodName := ⟨RX12, "fold", "(IIJ)J"⟩
abbrev cX12_find : ByteArray := prog_14_method_58_code
def yX12_find : MethodName := ⟨RX12, "find", "(IIJ)J"⟩
abbrev cX12_last : ByteArray := prog_14_method_59_code
def yX12_last : MethodName := ⟨RX12, "last", "(I)J"⟩
abbrev cX12_outcome : ByteArray := prog_14_method_60_code
def yX12_outcome : MethodName := ⟨RX12, "outcome", "()I"⟩
abbrev cX12_error : ByteArray := prog_14_method_61_code
def yX12_error : MethodName := ⟨RX12, "error", "()I"⟩
abbrev cX12_spent : ByteArray := prog_14_method_62_code
def yX12_spent : MethodName := ⟨RX12, "spent", "()I"⟩
abbrev cX12_reached : ByteArray := prog_14_method_63_code
def yX12_reached : MethodName := ⟨RX12, "reached", "(I)I"⟩
abbrev cX12_worked : ByteArray := prog_14_method_64_code
def yX12_worked : MethodName := ⟨RX12, "worked", "(II)Z"⟩
abbrev cX12_lists : ByteArray := prog_14_method_65_code
def yX12_lists : MethodName := ⟨RX12, "lists", "()I"⟩
def wsX12_thrown : List Cond := .code yX12_thrown cX12_thrown 1 (some .int) :: ([.fieldLink RX12 63 "NeededListsModel" "thrown" "I"] ++ wsX120)
def wsX12_fail : List Cond := .code yX12_fail cX12_fail 2 (some .int) :: ([.fieldLink RX12 63 "NeededListsModel" "thrown" "I"] ++ wsX120)
def wsX12_isList : List Cond := .code yX12_isList cX12_isList 2 (some .boolean) :: ([.fieldLink RX12 66 "NeededListsModel" "lists" "I"] ++ wsX120)
def wsX12_made : List Cond := .code yX12_made cX12_made 9 (some .int) :: ([.fieldLink RX12 7 "NeededListsModel" "sort" "[I", .fieldLink RX12 66 "NeededListsModel" "lists" "I", .fieldLink RX12 13 "NeededListsModel" "first" "[I", .fieldLink RX12 16 "NeededListsModel" "second" "[I", .fieldLink RX12 19 "NeededListsModel" "code" "[I", .fieldLink RX12 22 "NeededListsModel" "number" "[J", .fieldLink RX12 26 "NeededListsModel" "other" "[J"] ++ wsX120)
def wsX12_put : List Cond := .code yX12_put cX12_put 3 (some .int) :: ([.fieldLink RX12 63 "NeededListsModel" "thrown" "I", .fieldLink RX12 69 "NeededListsModel" "many" "I", .fieldLink RX12 44 "NeededListsModel" "rowItem" "[I", .fieldLink RX12 47 "NeededListsModel" "rowValue" "[J", .methodLink RX12 72 yX12_fail, .instanceMethod yX12_fail, .selects RX12 yX12_fail yX12_fail, .initialized RX12, .code yX12_fail cX12_fail 2 (some .int)] ++ wsX120)
def wsX12_hole : List Cond := .code yX12_hole cX12_hole 2 (some .int) :: ([.fieldLink RX12 63 "NeededListsModel" "thrown" "I", .fieldLink RX12 69 "NeededListsModel" "many" "I", .fieldLink RX12 44 "NeededListsModel" "rowItem" "[I", .methodLink RX12 72 yX12_fail, .instanceMethod yX12_fail, .selects RX12 yX12_fail yX12_fail, .initialized RX12, .code yX12_fail cX12_fail 2 (some .int)] ++ wsX120)
def wsX12_given : List Cond := .code yX12_given cX12_given 3 (some .int) :: ([.fieldLink RX12 63 "NeededListsModel" "thrown" "I", .fieldLink RX12 66 "NeededListsModel" "lists" "I", .fieldLink RX12 69 "NeededListsModel" "many" "I", .fieldLink RX12 54 "NeededListsModel" "givenItem" "[I", .fieldLink RX12 44 "NeededListsModel" "rowItem" "[I", .fieldLink RX12 57 "NeededListsModel" "givenValue" "[J", .fieldLink RX12 47 "NeededListsModel" "rowValue" "[J", .methodLink RX12 72 yX12_fail, .instanceMethod yX12_fail, .selects RX12 yX12_fail yX12_fail, .initialized RX12, .code yX12_fail cX12_fail 2 (some .int), .methodLink RX12 76 yX12_made, .instanceMethod yX12_made, .selects RX12 yX12_made yX12_made, .code yX12_made cX12_made 9 (some .int), .fieldLink RX12 7 "NeededListsModel" "sort" "[I", .fieldLink RX12 13 "NeededListsModel" "first" "[I", .fieldLink RX12 16 "NeededListsModel" "second" "[I", .fieldLink RX12 19 "NeededListsModel" "code" "[I", .fieldLink RX12 22 "NeededListsModel" "number" "[J", .fieldLink RX12 26 "NeededListsModel" "other" "[J"] ++ wsX120)
def wsX12_count : List Cond := .code yX12_count cX12_count 5 (some .int) :: ([.fieldLink RX12 63 "NeededListsModel" "thrown" "I", .fieldLink RX12 66 "NeededListsModel" "lists" "I", .methodLink RX12 72 yX12_fail, .instanceMethod yX12_fail, .selects RX12 yX12_fail yX12_fail, .initialized RX12, .code yX12_fail cX12_fail 2 (some .int), .methodLink RX12 76 yX12_made, .instanceMethod yX12_made, .selects RX12 yX12_made yX12_made, .code yX12_made cX12_made 9 (some .int), .fieldLink RX12 7 "NeededListsModel" "sort" "[I", .fieldLink RX12 13 "NeededListsModel" "first" "[I", .fieldLink RX12 16 "NeededListsModel" "second" "[I", .fieldLink RX12 19 "NeededListsModel" "code" "[I", .fieldLink RX12 22 "NeededListsModel" "number" "[J", .fieldLink RX12 26 "NeededListsModel" "other" "[J"] ++ wsX120)
def wsX12_isOp : List Cond := .code yX12_isOp cX12_isOp 1 (some .boolean) :: ([])
def wsX12_iterate : List Cond := .code yX12_iterate cX12_iterate 6 (some .int) :: ([.fieldLink RX12 63 "NeededListsModel" "thrown" "I", .fieldLink RX12 66 "NeededListsModel" "lists" "I", .methodLink RX12 80 yX12_isOp, .static yX12_isOp, .initialized RX12, .code yX12_isOp cX12_isOp 1 (some .boolean), .methodLink RX12 72 yX12_fail, .instanceMethod yX12_fail, .selects RX12 yX12_fail yX12_fail, .code yX12_fail cX12_fail 2 (some .int), .methodLink RX12 76 yX12_made, .instanceMethod yX12_made, .selects RX12 yX12_made yX12_made, .code yX12_made cX12_made 9 (some .int), .fieldLink RX12 7 "NeededListsModel" "sort" "[I", .fieldLink RX12 13 "NeededListsModel" "first" "[I", .fieldLink RX12 16 "NeededListsModel" "second" "[I", .fieldLink RX12 19 "NeededListsModel" "code" "[I", .fieldLink RX12 22 "NeededListsModel" "number" "[J", .fieldLink RX12 26 "NeededListsModel" "other" "[J"] ++ wsX120)
def wsX12_map : List Cond := .code yX12_map cX12_map 5 (some .int) :: ([.fieldLink RX12 63 "NeededListsModel" "thrown" "I", .fieldLink RX12 66 "NeededListsModel" "lists" "I", .methodLink RX12 84 yX12_isList, .instanceMethod yX12_isList, .selects RX12 yX12_isList yX12_isList, .initialized RX12, .code yX12_isList cX12_isList 2 (some .boolean), .methodLink RX12 72 yX12_fail, .instanceMethod yX12_fail, .selects RX12 yX12_fail yX12_fail, .code yX12_fail cX12_fail 2 (some .int), .methodLink RX12 80 yX12_isOp, .static yX12_isOp, .code yX12_isOp cX12_isOp 1 (some .boolean), .methodLink RX12 76 yX12_made, .instanceMethod yX12_made, .selects RX12 yX12_made yX12_made, .code yX12_made cX12_made 9 (some .int), .fieldLink RX12 7 "NeededListsModel" "sort" "[I", .fieldLink RX12 13 "NeededListsModel" "first" "[I", .fieldLink RX12 16 "NeededListsModel" "second" "[I", .fieldLink RX12 19 "NeededListsModel" "code" "[I", .fieldLink RX12 22 "NeededListsModel" "number" "[J", .fieldLink RX12 26 "NeededListsModel" "other" "[J"] ++ wsX120)
def wsX12_both : List Cond := .code yX12_both cX12_both 4 (some .int) :: ([.fieldLink RX12 63 "NeededListsModel" "thrown" "I", .fieldLink RX12 66 "NeededListsModel" "lists" "I", .methodLink RX12 84 yX12_isList, .instanceMethod yX12_isList, .selects RX12 yX12_isList yX12_isList, .initialized RX12, .code yX12_isList cX12_isList 2 (some .boolean), .methodLink RX12 72 yX12_fail, .instanceMethod yX12_fail, .selects RX12 yX12_fail yX12_fail, .code yX12_fail cX12_fail 2 (some .int), .methodLink RX12 80 yX12_isOp, .static yX12_isOp, .code yX12_isOp cX12_isOp 1 (some .boolean), .methodLink RX12 76 yX12_made, .instanceMethod yX12_made, .selects RX12 yX12_made yX12_made, .code yX12_made cX12_made 9 (some .int), .fieldLink RX12 7 "NeededListsModel" "sort" "[I", .fieldLink RX12 13 "NeededListsModel" "first" "[I", .fieldLink RX12 16 "NeededListsModel" "second" "[I", .fieldLink RX12 19 "NeededListsModel" "code" "[I", .fieldLink RX12 22 "NeededListsModel" "number" "[J", .fieldLink RX12 26 "NeededListsModel" "other" "[J"] ++ wsX120)
def wsX12_scan : List Cond := .code yX12_scan cX12_scan 5 (some .int) :: ([.fieldLink RX12 63 "NeededListsModel" "thrown" "I", .fieldLink RX12 66 "NeededListsModel" "lists" "I", .methodLink RX12 84 yX12_isList, .instanceMethod yX12_isList, .selects RX12 yX12_isList yX12_isList, .initialized RX12, .code yX12_isList cX12_isList 2 (some .boolean), .methodLink RX12 72 yX12_fail, .instanceMethod yX12_fail, .selects RX12 yX12_fail yX12_fail, .code yX12_fail cX12_fail 2 (some .int), .methodLink RX12 80 yX12_isOp, .static yX12_isOp, .code yX12_isOp cX12_isOp 1 (some .boolean), .methodLink RX12 76 yX12_made, .instanceMethod yX12_made, .selects RX12 yX12_made yX12_made, .code yX12_made cX12_made 9 (some .int), .fieldLink RX12 7 "NeededListsModel" "sort" "[I", .fieldLink RX12 13 "NeededListsModel" "first" "[I", .fieldLink RX12 16 "NeededListsModel" "second" "[I", .fieldLink RX12 19 "NeededListsModel" "code" "[I", .fieldLink RX12 22 "NeededListsModel" "number" "[J", .fieldLink RX12 26 "NeededListsModel" "other" "[J"] ++ wsX120)
def wsX12_some : List Cond := .code yX12_some cX12_some 4 (some .int) :: ([.fieldLink RX12 66 "NeededListsModel" "lists" "I", .methodLink RX12 84 yX12_isList, .instanceMethod yX12_isList, .selects RX12 yX12_isList yX12_isList, .initialized RX12, .code yX12_isList cX12_isList 2 (some .boolean), .methodLink RX12 72 yX12_fail, .instanceMethod yX12_fail, .selects RX12 yX12_fail yX12_fail, .code yX12_fail cX12_fail 2 (some .int), .fieldLink RX12 63 "NeededListsModel" "thrown" "I", .methodLink RX12 76 yX12_made, .instanceMethod yX12_made, .selects RX12 yX12_made yX12_made, .code yX12_made cX12_made 9 (some .int), .fieldLink RX12 7 "NeededListsModel" "sort" "[I", .fieldLink RX12 13 "NeededListsModel" "first" "[I", .fieldLink RX12 16 "NeededListsModel" "second" "[I", .fieldLink RX12 19 "NeededListsModel" "code" "[I", .fieldLink RX12 22 "NeededListsModel" "number" "[J", .fieldLink RX12 26 "NeededListsModel" "other" "[J"] ++ wsX120)
def wsX12_take_r1 : List Cond := [Cond.fieldLink RX12 63 "NeededListsModel" "thrown" "I", Cond.methodLink RX12 87 yX12_some, Cond.instanceMethod yX12_some, Cond.selects RX12 yX12_some yX12_some, Cond.initialized RX12, Cond.code yX12_some cX12_some 4 (some .int), Cond.fieldLink RX12 66 "NeededListsModel" "lists" "I", Cond.methodLink RX12 84 yX12_isList, Cond.instanceMethod yX12_isList, Cond.selects RX12 yX12_isList yX12_isList, Cond.code yX12_isList cX12_isList 2 (some .boolean), Cond.methodLink RX12 72 yX12_fail, Cond.instanceMethod yX12_fail, Cond.selects RX12 yX12_fail yX12_fail, Cond.code yX12_fail cX12_fail 2 (some .int), Cond.methodLink RX12 76 yX12_made, Cond.instanceMethod yX12_made, Cond.selects RX12 yX12_made yX12_made, Cond.code yX12_made cX12_made 9 (some .int), Cond.fieldLink RX12 7 "NeededListsModel" "sort" "[I", Cond.fieldLink RX12 13 "NeededListsModel" "first" "[I", Cond.fieldLink RX12 16 "NeededListsModel" "second" "[I", Cond.fieldLink RX12 19 "NeededListsModel" "code" "[I", Cond.fieldLink RX12 22 "NeededListsModel" "number" "[J"]
def wsX12_take_r2 : List Cond := [Cond.fieldLink RX12 26 "NeededListsModel" "other" "[J"]
def wsX12_take : List Cond := .code yX12_take cX12_take 3 (some .int) :: ((wsX12_take_r1 ++ wsX12_take_r2) ++ wsX120)
def wsX12_drop_r1 : List Cond := [Cond.fieldLink RX12 63 "NeededListsModel" "thrown" "I", Cond.methodLink RX12 87 yX12_some, Cond.instanceMethod yX12_some, Cond.selects RX12 yX12_some yX12_some, Cond.initialized RX12, Cond.code yX12_some cX12_some 4 (some .int), Cond.fieldLink RX12 66 "NeededListsModel" "lists" "I", Cond.methodLink RX12 84 yX12_isList, Cond.instanceMethod yX12_isList, Cond.selects RX12 yX12_isList yX12_isList, Cond.code yX12_isList cX12_isList 2 (some .boolean), Cond.methodLink RX12 72 yX12_fail, Cond.instanceMethod yX12_fail, Cond.selects RX12 yX12_fail yX12_fail, Cond.code yX12_fail cX12_fail 2 (some .int), Cond.methodLink RX12 76 yX12_made, Cond.instanceMethod yX12_made, Cond.selects RX12 yX12_made yX12_made, Cond.code yX12_made cX12_made 9 (some .int), Cond.fieldLink RX12 7 "NeededListsModel" "sort" "[I", Cond.fieldLink RX12 13 "NeededListsModel" "first" "[I", Cond.fieldLink RX12 16 "NeededListsModel" "second" "[I", Cond.fieldLink RX12 19 "NeededListsModel" "code" "[I", Cond.fieldLink RX12 22 "NeededListsModel" "number" "[J"]
def wsX12_drop_r2 : List Cond := [Cond.fieldLink RX12 26 "NeededListsModel" "other" "[J"]
def wsX12_drop : List Cond := .code yX12_drop cX12_drop 3 (some .int) :: ((wsX12_drop_r1 ++ wsX12_drop_r2) ++ wsX120)
def wsX12_by : List Cond := .code yX12_by cX12_by 6 (some .int) :: ([.fieldLink RX12 66 "NeededListsModel" "lists" "I", .methodLink RX12 84 yX12_isList, .instanceMethod yX12_isList, .selects RX12 yX12_isList yX12_isList, .initialized RX12, .code yX12_isList cX12_isList 2 (some .boolean), .methodLink RX12 72 yX12_fail, .instanceMethod yX12_fail, .selects RX12 yX12_fail yX12_fail, .code yX12_fail cX12_fail 2 (some .int), .fieldLink RX12 63 "NeededListsModel" "thrown" "I", .methodLink RX12 91 yX12_isCond, .static yX12_isCond, .code yX12_isCond cX12_isCond 1 (some .boolean), .methodLink RX12 76 yX12_made, .instanceMethod yX12_made, .selects RX12 yX12_made yX12_made, .code yX12_made cX12_made 9 (some .int), .fieldLink RX12 7 "NeededListsModel" "sort" "[I", .fieldLink RX12 13 "NeededListsModel" "first" "[I", .fieldLink RX12 16 "NeededListsModel" "second" "[I", .fieldLink RX12 19 "NeededListsModel" "code" "[I", .fieldLink RX12 22 "NeededListsModel" "number" "[J", .fieldLink RX12 26 "NeededListsModel" "other" "[J"] ++ wsX120)
def wsX12_keep_r1 : List Cond := [Cond.fieldLink RX12 63 "NeededListsModel" "thrown" "I", Cond.methodLink RX12 94 yX12_by, Cond.instanceMethod yX12_by, Cond.selects RX12 yX12_by yX12_by, Cond.initialized RX12, Cond.code yX12_by cX12_by 6 (some .int), Cond.fieldLink RX12 66 "NeededListsModel" "lists" "I", Cond.methodLink RX12 84 yX12_isList, Cond.instanceMethod yX12_isList, Cond.selects RX12 yX12_isList yX12_isList, Cond.code yX12_isList cX12_isList 2 (some .boolean), Cond.methodLink RX12 72 yX12_fail, Cond.instanceMethod yX12_fail, Cond.selects RX12 yX12_fail yX12_fail, Cond.code yX12_fail cX12_fail 2 (some .int), Cond.methodLink RX12 91 yX12_isCond, Cond.static yX12_isCond, Cond.code yX12_isCond cX12_isCond 1 (some .boolean), Cond.methodLink RX12 76 yX12_made, Cond.instanceMethod yX12_made, Cond.selects RX12 yX12_made yX12_made, Cond.code yX12_made cX12_made 9 (some .int), Cond.fieldLink RX12 7 "NeededListsModel" "sort" "[I", Cond.fieldLink RX12 13 "NeededListsModel" "first" "[I"]
def wsX12_keep_r2 : List Cond := [Cond.fieldLink RX12 16 "NeededListsModel" "second" "[I", Cond.fieldLink RX12 19 "NeededListsModel" "code" "[I", Cond.fieldLink RX12 22 "NeededListsModel" "number" "[J", Cond.fieldLink RX12 26 "NeededListsModel" "other" "[J"]
def wsX12_keep : List Cond := .code yX12_keep cX12_keep 5 (some .int) :: ((wsX12_keep_r1 ++ wsX12_keep_r2) ++ wsX120)
def wsX12_during_r1 : List Cond := [Cond.fieldLink RX12 63 "NeededListsModel" "thrown" "I", Cond.methodLink RX12 94 yX12_by, Cond.instanceMethod yX12_by, Cond.selects RX12 yX12_by yX12_by, Cond.initialized RX12, Cond.code yX12_by cX12_by 6 (some .int), Cond.fieldLink RX12 66 "NeededListsModel" "lists" "I", Cond.methodLink RX12 84 yX12_isList, Cond.instanceMethod yX12_isList, Cond.selects RX12 yX12_isList yX12_isList, Cond.code yX12_isList cX12_isList 2 (some .boolean), Cond.methodLink RX12 72 yX12_fail, Cond.instanceMethod yX12_fail, Cond.selects RX12 yX12_fail yX12_fail, Cond.code yX12_fail cX12_fail 2 (some .int), Cond.methodLink RX12 91 yX12_isCond, Cond.static yX12_isCond, Cond.code yX12_isCond cX12_isCond 1 (some .boolean), Cond.methodLink RX12 76 yX12_made, Cond.instanceMethod yX12_made, Cond.selects RX12 yX12_made yX12_made, Cond.code yX12_made cX12_made 9 (some .int), Cond.fieldLink RX12 7 "NeededListsModel" "sort" "[I", Cond.fieldLink RX12 13 "NeededListsModel" "first" "[I"]
def wsX12_during_r2 : List Cond := [Cond.fieldLink RX12 16 "NeededListsModel" "second" "[I", Cond.fieldLink RX12 19 "NeededListsModel" "code" "[I", Cond.fieldLink RX12 22 "NeededListsModel" "number" "[J", Cond.fieldLink RX12 26 "NeededListsModel" "other" "[J"]
def wsX12_during : List Cond := .code yX12_during cX12_during 5 (some .int) :: ((wsX12_during_r1 ++ wsX12_during_r2) ++ wsX120)
def wsX12_after_r1 : List Cond := [Cond.fieldLink RX12 63 "NeededListsModel" "thrown" "I", Cond.methodLink RX12 94 yX12_by, Cond.instanceMethod yX12_by, Cond.selects RX12 yX12_by yX12_by, Cond.initialized RX12, Cond.code yX12_by cX12_by 6 (some .int), Cond.fieldLink RX12 66 "NeededListsModel" "lists" "I", Cond.methodLink RX12 84 yX12_isList, Cond.instanceMethod yX12_isList, Cond.selects RX12 yX12_isList yX12_isList, Cond.code yX12_isList cX12_isList 2 (some .boolean), Cond.methodLink RX12 72 yX12_fail, Cond.instanceMethod yX12_fail, Cond.selects RX12 yX12_fail yX12_fail, Cond.code yX12_fail cX12_fail 2 (some .int), Cond.methodLink RX12 91 yX12_isCond, Cond.static yX12_isCond, Cond.code yX12_isCond cX12_isCond 1 (some .boolean), Cond.methodLink RX12 76 yX12_made, Cond.instanceMethod yX12_made, Cond.selects RX12 yX12_made yX12_made, Cond.code yX12_made cX12_made 9 (some .int), Cond.fieldLink RX12 7 "NeededListsModel" "sort" "[I", Cond.fieldLink RX12 13 "NeededListsModel" "first" "[I"]
def wsX12_after_r2 : List Cond := [Cond.fieldLink RX12 16 "NeededListsModel" "second" "[I", Cond.fieldLink RX12 19 "NeededListsModel" "code" "[I", Cond.fieldLink RX12 22 "NeededListsModel" "number" "[J", Cond.fieldLink RX12 26 "NeededListsModel" "other" "[J"]
def wsX12_after : List Cond := .code yX12_after cX12_after 5 (some .int) :: ((wsX12_after_r1 ++ wsX12_after_r2) ++ wsX120)
def wsX12_join : List Cond := .code yX12_join cX12_join 3 (some .int) :: ([.fieldLink RX12 63 "NeededListsModel" "thrown" "I", .fieldLink RX12 66 "NeededListsModel" "lists" "I", .methodLink RX12 84 yX12_isList, .instanceMethod yX12_isList, .selects RX12 yX12_isList yX12_isList, .initialized RX12, .code yX12_isList cX12_isList 2 (some .boolean), .methodLink RX12 72 yX12_fail, .instanceMethod yX12_fail, .selects RX12 yX12_fail yX12_fail, .code yX12_fail cX12_fail 2 (some .int), .methodLink RX12 76 yX12_made, .instanceMethod yX12_made, .selects RX12 yX12_made yX12_made, .code yX12_made cX12_made 9 (some .int), .fieldLink RX12 7 "NeededListsModel" "sort" "[I", .fieldLink RX12 13 "NeededListsModel" "first" "[I", .fieldLink RX12 16 "NeededListsModel" "second" "[I", .fieldLink RX12 19 "NeededListsModel" "code" "[I", .fieldLink RX12 22 "NeededListsModel" "number" "[J", .fieldLink RX12 26 "NeededListsModel" "other" "[J"] ++ wsX120)
def wsX12_other : List Cond := .code yX12_other cX12_other 3 (some .int) :: ([.fieldLink RX12 63 "NeededListsModel" "thrown" "I", .fieldLink RX12 66 "NeededListsModel" "lists" "I", .methodLink RX12 84 yX12_isList, .instanceMethod yX12_isList, .selects RX12 yX12_isList yX12_isList, .initialized RX12, .code yX12_isList cX12_isList 2 (some .boolean), .methodLink RX12 72 yX12_fail, .instanceMethod yX12_fail, .selects RX12 yX12_fail yX12_fail, .code yX12_fail cX12_fail 2 (some .int), .methodLink RX12 76 yX12_made, .instanceMethod yX12_made, .selects RX12 yX12_made yX12_made, .code yX12_made cX12_made 9 (some .int), .fieldLink RX12 7 "NeededListsModel" "sort" "[I", .fieldLink RX12 13 "NeededListsModel" "first" "[I", .fieldLink RX12 16 "NeededListsModel" "second" "[I", .fieldLink RX12 19 "NeededListsModel" "code" "[I", .fieldLink RX12 22 "NeededListsModel" "number" "[J", .fieldLink RX12 26 "NeededListsModel" "other" "[J"] ++ wsX120)
def wsX12_steps : List Cond := .code yX12_steps cX12_steps 3 (some .int) :: ([.fieldLink RX12 63 "NeededListsModel" "thrown" "I", .fieldLink RX12 50 "NeededListsModel" "purse" "I", .methodLink RX12 72 yX12_fail, .instanceMethod yX12_fail, .selects RX12 yX12_fail yX12_fail, .initialized RX12, .code yX12_fail cX12_fail 2 (some .int)] ++ wsX120)
def wsX12_at_r1 : List Cond := [Cond.fieldLink RX12 63 "NeededListsModel" "thrown" "I", Cond.methodLink RX12 84 yX12_isList, Cond.instanceMethod yX12_isList, Cond.selects RX12 yX12_isList yX12_isList, Cond.initialized RX12, Cond.code yX12_isList cX12_isList 2 (some .boolean), Cond.fieldLink RX12 66 "NeededListsModel" "lists" "I", Cond.methodLink RX12 72 yX12_fail, Cond.instanceMethod yX12_fail, Cond.selects RX12 yX12_fail yX12_fail, Cond.code yX12_fail cX12_fail 2 (some .int), Cond.methodLink RX12 220 yX12_begin, Cond.instanceMethod yX12_begin, Cond.selects RX12 yX12_begin yX12_begin, Cond.code yX12_begin cX12_begin 1 none, Cond.fieldLink RX12 200 "NeededListsModel" "spent" "I", Cond.fieldLink RX12 203 "NeededListsModel" "outcome" "I", Cond.fieldLink RX12 206 "NeededListsModel" "error" "I", Cond.methodLink RX12 223 yX12_reach, Cond.instanceMethod yX12_reach, Cond.selects RX12 yX12_reach yX12_reach, Cond.code yX12_reach cX12_reach 3 (some .int), Cond.fieldLink RX12 29 "NeededListsModel" "cell" "[I", Cond.methodLink RX12 106 yX12_place]
def wsX12_at_r2 : List Cond := [Cond.static yX12_place, Cond.code yX12_place cX12_place 2 (some .int), Cond.methodLink RX12 209 yX12_meet, Cond.instanceMethod yX12_meet, Cond.selects RX12 yX12_meet yX12_meet, Cond.code yX12_meet cX12_meet 6 (some .boolean), Cond.fieldLink RX12 60 "NeededListsModel" "pile" "[I", Cond.fieldLink RX12 32 "NeededListsModel" "item" "[I", Cond.fieldLink RX12 50 "NeededListsModel" "purse" "I", Cond.fieldLink RX12 122 "NeededListsModel" "becomes" "I", Cond.fieldLink RX12 35 "NeededListsModel" "value" "[J", Cond.fieldLink RX12 179 "NeededListsModel" "becomesValue" "J", Cond.fieldLink RX12 38 "NeededListsModel" "shareList" "[I", Cond.fieldLink RX12 125 "NeededListsModel" "becomesList" "I", Cond.fieldLink RX12 41 "NeededListsModel" "shareCell" "[I", Cond.fieldLink RX12 128 "NeededListsModel" "becomesCell" "I", Cond.methodLink RX12 194 yX12_lookAtItem, Cond.instanceMethod yX12_lookAtItem, Cond.selects RX12 yX12_lookAtItem yX12_lookAtItem, Cond.code yX12_lookAtItem cX12_lookAtItem 5 (some .int), Cond.fieldLink RX12 13 "NeededListsModel" "first" "[I", Cond.fieldLink RX12 7 "NeededListsModel" "sort" "[I", Cond.fieldLink RX12 54 "NeededListsModel" "givenItem" "[I", Cond.fieldLink RX12 57 "NeededListsModel" "givenValue" "[J"]
def wsX12_at_r3 : List Cond := [Cond.fieldLink RX12 22 "NeededListsModel" "number" "[J", Cond.fieldLink RX12 26 "NeededListsModel" "other" "[J", Cond.fieldLink RX12 19 "NeededListsModel" "code" "[I", Cond.fieldLink RX12 16 "NeededListsModel" "second" "[I", Cond.fieldLink RX12 176 "NeededListsModel" "runSize" "I", Cond.methodLink RX12 182 yX12_is, Cond.instanceMethod yX12_is, Cond.selects RX12 yX12_is yX12_is, Cond.code yX12_is cX12_is 3 (some .int), Cond.methodLink RX12 186 yX12_ofItems, Cond.instanceMethod yX12_ofItems, Cond.selects RX12 yX12_ofItems yX12_ofItems, Cond.code yX12_ofItems cX12_ofItems 13 (some .int), Cond.fieldLink RX12 110 "NeededListsModel" "got" "I", Cond.fieldLink RX12 119 "NeededListsModel" "gotValue" "J", Cond.fieldLink RX12 98 "NeededListsModel" "opValue" "J", Cond.methodLink RX12 165 yX12_needItem, Cond.instanceMethod yX12_needItem, Cond.selects RX12 yX12_needItem yX12_needItem, Cond.code yX12_needItem cX12_needItem 4 (some .int), Cond.methodLink RX12 116 yX12_ownPlace, Cond.instanceMethod yX12_ownPlace, Cond.selects RX12 yX12_ownPlace yX12_ownPlace, Cond.code yX12_ownPlace cX12_ownPlace 4 (some .int)]
def wsX12_at_r4 : List Cond := [Cond.methodLink RX12 190 yX12_op, Cond.instanceMethod yX12_op, Cond.selects RX12 yX12_op yX12_op, Cond.code yX12_op cX12_op 8 (some .int), Cond.methodLink RX12 102 yX12_floor, Cond.static yX12_floor, Cond.code yX12_floor cX12_floor 6 (some .long), Cond.methodLink RX12 159 yX12_lookAtRun, Cond.instanceMethod yX12_lookAtRun, Cond.selects RX12 yX12_lookAtRun yX12_lookAtRun, Cond.code yX12_lookAtRun cX12_lookAtRun 9 (some .int), Cond.methodLink RX12 137 yX12_as, Cond.instanceMethod yX12_as, Cond.selects RX12 yX12_as yX12_as, Cond.code yX12_as cX12_as 2 (some .int), Cond.methodLink RX12 131 yX12_needCell, Cond.instanceMethod yX12_needCell, Cond.selects RX12 yX12_needCell yX12_needCell, Cond.code yX12_needCell cX12_needCell 4 (some .int), Cond.fieldLink RX12 113 "NeededListsModel" "gotAt" "I", Cond.methodLink RX12 197 yX12_lookAtCell, Cond.instanceMethod yX12_lookAtCell, Cond.selects RX12 yX12_lookAtCell yX12_lookAtCell, Cond.code yX12_lookAtCell cX12_lookAtCell 4 (some .int)]
def wsX12_at_r5 : List Cond := [Cond.methodLink RX12 140 yX12_like, Cond.instanceMethod yX12_like, Cond.selects RX12 yX12_like yX12_like, Cond.code yX12_like cX12_like 5 (some .int), Cond.methodLink RX12 134 yX12_shares, Cond.instanceMethod yX12_shares, Cond.selects RX12 yX12_shares yX12_shares, Cond.code yX12_shares cX12_shares 3 (some .int), Cond.methodLink RX12 144 yX12_lookAtBoth, Cond.instanceMethod yX12_lookAtBoth, Cond.selects RX12 yX12_lookAtBoth yX12_lookAtBoth, Cond.code yX12_lookAtBoth cX12_lookAtBoth 5 (some .int), Cond.methodLink RX12 147 yX12_lookOn, Cond.instanceMethod yX12_lookOn, Cond.selects RX12 yX12_lookOn yX12_lookOn, Cond.code yX12_lookOn cX12_lookOn 6 (some .int), Cond.methodLink RX12 168 yX12_isRight, Cond.instanceMethod yX12_isRight, Cond.selects RX12 yX12_isRight yX12_isRight, Cond.code yX12_isRight cX12_isRight 7 (some .boolean), Cond.methodLink RX12 172 yX12_meets, Cond.static yX12_meets, Cond.code yX12_meets cX12_meets 5 (some .boolean), Cond.methodLink RX12 150 yX12_lookAtDuring]
def wsX12_at_r6 : List Cond := [Cond.instanceMethod yX12_lookAtDuring, Cond.selects RX12 yX12_lookAtDuring yX12_lookAtDuring, Cond.code yX12_lookAtDuring cX12_lookAtDuring 5 (some .int), Cond.methodLink RX12 153 yX12_lookAtJoin, Cond.instanceMethod yX12_lookAtJoin, Cond.selects RX12 yX12_lookAtJoin yX12_lookAtJoin, Cond.code yX12_lookAtJoin cX12_lookAtJoin 5 (some .int), Cond.methodLink RX12 156 yX12_lookAtRound, Cond.instanceMethod yX12_lookAtRound, Cond.selects RX12 yX12_lookAtRound yX12_lookAtRound, Cond.code yX12_lookAtRound cX12_lookAtRound 4 (some .int), Cond.methodLink RX12 162 yX12_lookAtAll, Cond.instanceMethod yX12_lookAtAll, Cond.selects RX12 yX12_lookAtAll yX12_lookAtAll, Cond.code yX12_lookAtAll cX12_lookAtAll 13 (some .int), Cond.methodLink RX12 216 yX12_failed, Cond.instanceMethod yX12_failed, Cond.selects RX12 yX12_failed yX12_failed, Cond.code yX12_failed cX12_failed 2 (some .long), Cond.methodLink RX12 226 yX12_told, Cond.instanceMethod yX12_told, Cond.selects RX12 yX12_told yX12_told, Cond.code yX12_told cX12_told 2 (some .long), Cond.methodLink RX12 212 yX12_out]
def wsX12_at_r7 : List Cond := [Cond.instanceMethod yX12_out, Cond.selects RX12 yX12_out yX12_out, Cond.code yX12_out cX12_out 1 (some .long), Cond.methodLink RX12 229 yX12_work, Cond.instanceMethod yX12_work, Cond.selects RX12 yX12_work yX12_work, Cond.code yX12_work cX12_work 4 (some .int)]
def wsX12_at : List Cond := .code yX12_at cX12_at 5 (some .long) :: ((wsX12_at_r1 ++ (wsX12_at_r2 ++ (wsX12_at_r3 ++ (wsX12_at_r4 ++ (wsX12_at_r5 ++ (wsX12_at_r6 ++ wsX12_at_r7)))))) ++ wsX120)
def wsX12_size_r1 : List Cond := [Cond.fieldLink RX12 63 "NeededListsModel" "thrown" "I", Cond.methodLink RX12 84 yX12_isList, Cond.instanceMethod yX12_isList, Cond.selects RX12 yX12_isList yX12_isList, Cond.initialized RX12, Cond.code yX12_isList cX12_isList 2 (some .boolean), Cond.fieldLink RX12 66 "NeededListsModel" "lists" "I", Cond.methodLink RX12 72 yX12_fail, Cond.instanceMethod yX12_fail, Cond.selects RX12 yX12_fail yX12_fail, Cond.code yX12_fail cX12_fail 2 (some .int), Cond.methodLink RX12 220 yX12_begin, Cond.instanceMethod yX12_begin, Cond.selects RX12 yX12_begin yX12_begin, Cond.code yX12_begin cX12_begin 1 none, Cond.fieldLink RX12 200 "NeededListsModel" "spent" "I", Cond.fieldLink RX12 203 "NeededListsModel" "outcome" "I", Cond.fieldLink RX12 206 "NeededListsModel" "error" "I", Cond.methodLink RX12 223 yX12_reach, Cond.instanceMethod yX12_reach, Cond.selects RX12 yX12_reach yX12_reach, Cond.code yX12_reach cX12_reach 3 (some .int), Cond.fieldLink RX12 29 "NeededListsModel" "cell" "[I", Cond.methodLink RX12 106 yX12_place]
def wsX12_size_r2 : List Cond := [Cond.static yX12_place, Cond.code yX12_place cX12_place 2 (some .int), Cond.methodLink RX12 209 yX12_meet, Cond.instanceMethod yX12_meet, Cond.selects RX12 yX12_meet yX12_meet, Cond.code yX12_meet cX12_meet 6 (some .boolean), Cond.fieldLink RX12 60 "NeededListsModel" "pile" "[I", Cond.fieldLink RX12 32 "NeededListsModel" "item" "[I", Cond.fieldLink RX12 50 "NeededListsModel" "purse" "I", Cond.fieldLink RX12 122 "NeededListsModel" "becomes" "I", Cond.fieldLink RX12 35 "NeededListsModel" "value" "[J", Cond.fieldLink RX12 179 "NeededListsModel" "becomesValue" "J", Cond.fieldLink RX12 38 "NeededListsModel" "shareList" "[I", Cond.fieldLink RX12 125 "NeededListsModel" "becomesList" "I", Cond.fieldLink RX12 41 "NeededListsModel" "shareCell" "[I", Cond.fieldLink RX12 128 "NeededListsModel" "becomesCell" "I", Cond.methodLink RX12 194 yX12_lookAtItem, Cond.instanceMethod yX12_lookAtItem, Cond.selects RX12 yX12_lookAtItem yX12_lookAtItem, Cond.code yX12_lookAtItem cX12_lookAtItem 5 (some .int), Cond.fieldLink RX12 13 "NeededListsModel" "first" "[I", Cond.fieldLink RX12 7 "NeededListsModel" "sort" "[I", Cond.fieldLink RX12 54 "NeededListsModel" "givenItem" "[I", Cond.fieldLink RX12 57 "NeededListsModel" "givenValue" "[J"]
def wsX12_size_r3 : List Cond := [Cond.fieldLink RX12 22 "NeededListsModel" "number" "[J", Cond.fieldLink RX12 26 "NeededListsModel" "other" "[J", Cond.fieldLink RX12 19 "NeededListsModel" "code" "[I", Cond.fieldLink RX12 16 "NeededListsModel" "second" "[I", Cond.fieldLink RX12 176 "NeededListsModel" "runSize" "I", Cond.methodLink RX12 182 yX12_is, Cond.instanceMethod yX12_is, Cond.selects RX12 yX12_is yX12_is, Cond.code yX12_is cX12_is 3 (some .int), Cond.methodLink RX12 186 yX12_ofItems, Cond.instanceMethod yX12_ofItems, Cond.selects RX12 yX12_ofItems yX12_ofItems, Cond.code yX12_ofItems cX12_ofItems 13 (some .int), Cond.fieldLink RX12 110 "NeededListsModel" "got" "I", Cond.fieldLink RX12 119 "NeededListsModel" "gotValue" "J", Cond.fieldLink RX12 98 "NeededListsModel" "opValue" "J", Cond.methodLink RX12 165 yX12_needItem, Cond.instanceMethod yX12_needItem, Cond.selects RX12 yX12_needItem yX12_needItem, Cond.code yX12_needItem cX12_needItem 4 (some .int), Cond.methodLink RX12 116 yX12_ownPlace, Cond.instanceMethod yX12_ownPlace, Cond.selects RX12 yX12_ownPlace yX12_ownPlace, Cond.code yX12_ownPlace cX12_ownPlace 4 (some .int)]
def wsX12_size_r4 : List Cond := [Cond.methodLink RX12 190 yX12_op, Cond.instanceMethod yX12_op, Cond.selects RX12 yX12_op yX12_op, Cond.code yX12_op cX12_op 8 (some .int), Cond.methodLink RX12 102 yX12_floor, Cond.static yX12_floor, Cond.code yX12_floor cX12_floor 6 (some .long), Cond.methodLink RX12 159 yX12_lookAtRun, Cond.instanceMethod yX12_lookAtRun, Cond.selects RX12 yX12_lookAtRun yX12_lookAtRun, Cond.code yX12_lookAtRun cX12_lookAtRun 9 (some .int), Cond.methodLink RX12 137 yX12_as, Cond.instanceMethod yX12_as, Cond.selects RX12 yX12_as yX12_as, Cond.code yX12_as cX12_as 2 (some .int), Cond.methodLink RX12 131 yX12_needCell, Cond.instanceMethod yX12_needCell, Cond.selects RX12 yX12_needCell yX12_needCell, Cond.code yX12_needCell cX12_needCell 4 (some .int), Cond.fieldLink RX12 113 "NeededListsModel" "gotAt" "I", Cond.methodLink RX12 197 yX12_lookAtCell, Cond.instanceMethod yX12_lookAtCell, Cond.selects RX12 yX12_lookAtCell yX12_lookAtCell, Cond.code yX12_lookAtCell cX12_lookAtCell 4 (some .int)]
def wsX12_size_r5 : List Cond := [Cond.methodLink RX12 140 yX12_like, Cond.instanceMethod yX12_like, Cond.selects RX12 yX12_like yX12_like, Cond.code yX12_like cX12_like 5 (some .int), Cond.methodLink RX12 134 yX12_shares, Cond.instanceMethod yX12_shares, Cond.selects RX12 yX12_shares yX12_shares, Cond.code yX12_shares cX12_shares 3 (some .int), Cond.methodLink RX12 144 yX12_lookAtBoth, Cond.instanceMethod yX12_lookAtBoth, Cond.selects RX12 yX12_lookAtBoth yX12_lookAtBoth, Cond.code yX12_lookAtBoth cX12_lookAtBoth 5 (some .int), Cond.methodLink RX12 147 yX12_lookOn, Cond.instanceMethod yX12_lookOn, Cond.selects RX12 yX12_lookOn yX12_lookOn, Cond.code yX12_lookOn cX12_lookOn 6 (some .int), Cond.methodLink RX12 168 yX12_isRight, Cond.instanceMethod yX12_isRight, Cond.selects RX12 yX12_isRight yX12_isRight, Cond.code yX12_isRight cX12_isRight 7 (some .boolean), Cond.methodLink RX12 172 yX12_meets, Cond.static yX12_meets, Cond.code yX12_meets cX12_meets 5 (some .boolean), Cond.methodLink RX12 150 yX12_lookAtDuring]
def wsX12_size_r6 : List Cond := [Cond.instanceMethod yX12_lookAtDuring, Cond.selects RX12 yX12_lookAtDuring yX12_lookAtDuring, Cond.code yX12_lookAtDuring cX12_lookAtDuring 5 (some .int), Cond.methodLink RX12 153 yX12_lookAtJoin, Cond.instanceMethod yX12_lookAtJoin, Cond.selects RX12 yX12_lookAtJoin yX12_lookAtJoin, Cond.code yX12_lookAtJoin cX12_lookAtJoin 5 (some .int), Cond.methodLink RX12 156 yX12_lookAtRound, Cond.instanceMethod yX12_lookAtRound, Cond.selects RX12 yX12_lookAtRound yX12_lookAtRound, Cond.code yX12_lookAtRound cX12_lookAtRound 4 (some .int), Cond.methodLink RX12 162 yX12_lookAtAll, Cond.instanceMethod yX12_lookAtAll, Cond.selects RX12 yX12_lookAtAll yX12_lookAtAll, Cond.code yX12_lookAtAll cX12_lookAtAll 13 (some .int), Cond.methodLink RX12 226 yX12_told, Cond.instanceMethod yX12_told, Cond.selects RX12 yX12_told yX12_told, Cond.code yX12_told cX12_told 2 (some .long), Cond.methodLink RX12 212 yX12_out, Cond.instanceMethod yX12_out, Cond.selects RX12 yX12_out yX12_out, Cond.code yX12_out cX12_out 1 (some .long), Cond.methodLink RX12 216 yX12_failed]
def wsX12_size_r7 : List Cond := [Cond.instanceMethod yX12_failed, Cond.selects RX12 yX12_failed yX12_failed, Cond.code yX12_failed cX12_failed 2 (some .long)]
def wsX12_size : List Cond := .code yX12_size cX12_size 4 (some .long) :: ((wsX12_size_r1 ++ (wsX12_size_r2 ++ (wsX12_size_r3 ++ (wsX12_size_r4 ++ (wsX12_size_r5 ++ (wsX12_size_r6 ++ wsX12_size_r7)))))) ++ wsX120)
def wsX12_fold_r1 : List Cond := [Cond.fieldLink RX12 63 "NeededListsModel" "thrown" "I", Cond.fieldLink RX12 119 "NeededListsModel" "gotValue" "J", Cond.fieldLink RX12 98 "NeededListsModel" "opValue" "J", Cond.methodLink RX12 84 yX12_isList, Cond.instanceMethod yX12_isList, Cond.selects RX12 yX12_isList yX12_isList, Cond.initialized RX12, Cond.code yX12_isList cX12_isList 2 (some .boolean), Cond.fieldLink RX12 66 "NeededListsModel" "lists" "I", Cond.methodLink RX12 72 yX12_fail, Cond.instanceMethod yX12_fail, Cond.selects RX12 yX12_fail yX12_fail, Cond.code yX12_fail cX12_fail 2 (some .int), Cond.methodLink RX12 80 yX12_isOp, Cond.static yX12_isOp, Cond.code yX12_isOp cX12_isOp 1 (some .boolean), Cond.methodLink RX12 220 yX12_begin, Cond.instanceMethod yX12_begin, Cond.selects RX12 yX12_begin yX12_begin, Cond.code yX12_begin cX12_begin 1 none, Cond.fieldLink RX12 200 "NeededListsModel" "spent" "I", Cond.fieldLink RX12 203 "NeededListsModel" "outcome" "I", Cond.fieldLink RX12 206 "NeededListsModel" "error" "I", Cond.methodLink RX12 223 yX12_reach]
def wsX12_fold_r2 : List Cond := [Cond.instanceMethod yX12_reach, Cond.selects RX12 yX12_reach yX12_reach, Cond.code yX12_reach cX12_reach 3 (some .int), Cond.fieldLink RX12 29 "NeededListsModel" "cell" "[I", Cond.methodLink RX12 106 yX12_place, Cond.static yX12_place, Cond.code yX12_place cX12_place 2 (some .int), Cond.methodLink RX12 209 yX12_meet, Cond.instanceMethod yX12_meet, Cond.selects RX12 yX12_meet yX12_meet, Cond.code yX12_meet cX12_meet 6 (some .boolean), Cond.fieldLink RX12 60 "NeededListsModel" "pile" "[I", Cond.fieldLink RX12 32 "NeededListsModel" "item" "[I", Cond.fieldLink RX12 50 "NeededListsModel" "purse" "I", Cond.fieldLink RX12 122 "NeededListsModel" "becomes" "I", Cond.fieldLink RX12 35 "NeededListsModel" "value" "[J", Cond.fieldLink RX12 179 "NeededListsModel" "becomesValue" "J", Cond.fieldLink RX12 38 "NeededListsModel" "shareList" "[I", Cond.fieldLink RX12 125 "NeededListsModel" "becomesList" "I", Cond.fieldLink RX12 41 "NeededListsModel" "shareCell" "[I", Cond.fieldLink RX12 128 "NeededListsModel" "becomesCell" "I", Cond.methodLink RX12 194 yX12_lookAtItem, Cond.instanceMethod yX12_lookAtItem, Cond.selects RX12 yX12_lookAtItem yX12_lookAtItem]
def wsX12_fold_r3 : List Cond := [Cond.code yX12_lookAtItem cX12_lookAtItem 5 (some .int), Cond.fieldLink RX12 13 "NeededListsModel" "first" "[I", Cond.fieldLink RX12 7 "NeededListsModel" "sort" "[I", Cond.fieldLink RX12 54 "NeededListsModel" "givenItem" "[I", Cond.fieldLink RX12 57 "NeededListsModel" "givenValue" "[J", Cond.fieldLink RX12 22 "NeededListsModel" "number" "[J", Cond.fieldLink RX12 26 "NeededListsModel" "other" "[J", Cond.fieldLink RX12 19 "NeededListsModel" "code" "[I", Cond.fieldLink RX12 16 "NeededListsModel" "second" "[I", Cond.fieldLink RX12 176 "NeededListsModel" "runSize" "I", Cond.methodLink RX12 182 yX12_is, Cond.instanceMethod yX12_is, Cond.selects RX12 yX12_is yX12_is, Cond.code yX12_is cX12_is 3 (some .int), Cond.methodLink RX12 186 yX12_ofItems, Cond.instanceMethod yX12_ofItems, Cond.selects RX12 yX12_ofItems yX12_ofItems, Cond.code yX12_ofItems cX12_ofItems 13 (some .int), Cond.fieldLink RX12 110 "NeededListsModel" "got" "I", Cond.methodLink RX12 165 yX12_needItem, Cond.instanceMethod yX12_needItem, Cond.selects RX12 yX12_needItem yX12_needItem, Cond.code yX12_needItem cX12_needItem 4 (some .int), Cond.methodLink RX12 116 yX12_ownPlace]
def wsX12_fold_r4 : List Cond := [Cond.instanceMethod yX12_ownPlace, Cond.selects RX12 yX12_ownPlace yX12_ownPlace, Cond.code yX12_ownPlace cX12_ownPlace 4 (some .int), Cond.methodLink RX12 190 yX12_op, Cond.instanceMethod yX12_op, Cond.selects RX12 yX12_op yX12_op, Cond.code yX12_op cX12_op 8 (some .int), Cond.methodLink RX12 102 yX12_floor, Cond.static yX12_floor, Cond.code yX12_floor cX12_floor 6 (some .long), Cond.methodLink RX12 159 yX12_lookAtRun, Cond.instanceMethod yX12_lookAtRun, Cond.selects RX12 yX12_lookAtRun yX12_lookAtRun, Cond.code yX12_lookAtRun cX12_lookAtRun 9 (some .int), Cond.methodLink RX12 137 yX12_as, Cond.instanceMethod yX12_as, Cond.selects RX12 yX12_as yX12_as, Cond.code yX12_as cX12_as 2 (some .int), Cond.methodLink RX12 131 yX12_needCell, Cond.instanceMethod yX12_needCell, Cond.selects RX12 yX12_needCell yX12_needCell, Cond.code yX12_needCell cX12_needCell 4 (some .int), Cond.fieldLink RX12 113 "NeededListsModel" "gotAt" "I", Cond.methodLink RX12 197 yX12_lookAtCell]
def wsX12_fold_r5 : List Cond := [Cond.instanceMethod yX12_lookAtCell, Cond.selects RX12 yX12_lookAtCell yX12_lookAtCell, Cond.code yX12_lookAtCell cX12_lookAtCell 4 (some .int), Cond.methodLink RX12 140 yX12_like, Cond.instanceMethod yX12_like, Cond.selects RX12 yX12_like yX12_like, Cond.code yX12_like cX12_like 5 (some .int), Cond.methodLink RX12 134 yX12_shares, Cond.instanceMethod yX12_shares, Cond.selects RX12 yX12_shares yX12_shares, Cond.code yX12_shares cX12_shares 3 (some .int), Cond.methodLink RX12 144 yX12_lookAtBoth, Cond.instanceMethod yX12_lookAtBoth, Cond.selects RX12 yX12_lookAtBoth yX12_lookAtBoth, Cond.code yX12_lookAtBoth cX12_lookAtBoth 5 (some .int), Cond.methodLink RX12 147 yX12_lookOn, Cond.instanceMethod yX12_lookOn, Cond.selects RX12 yX12_lookOn yX12_lookOn, Cond.code yX12_lookOn cX12_lookOn 6 (some .int), Cond.methodLink RX12 168 yX12_isRight, Cond.instanceMethod yX12_isRight, Cond.selects RX12 yX12_isRight yX12_isRight, Cond.code yX12_isRight cX12_isRight 7 (some .boolean), Cond.methodLink RX12 172 yX12_meets]
def wsX12_fold_r6 : List Cond := [Cond.static yX12_meets, Cond.code yX12_meets cX12_meets 5 (some .boolean), Cond.methodLink RX12 150 yX12_lookAtDuring, Cond.instanceMethod yX12_lookAtDuring, Cond.selects RX12 yX12_lookAtDuring yX12_lookAtDuring, Cond.code yX12_lookAtDuring cX12_lookAtDuring 5 (some .int), Cond.methodLink RX12 153 yX12_lookAtJoin, Cond.instanceMethod yX12_lookAtJoin, Cond.selects RX12 yX12_lookAtJoin yX12_lookAtJoin, Cond.code yX12_lookAtJoin cX12_lookAtJoin 5 (some .int), Cond.methodLink RX12 156 yX12_lookAtRound, Cond.instanceMethod yX12_lookAtRound, Cond.selects RX12 yX12_lookAtRound yX12_lookAtRound, Cond.code yX12_lookAtRound cX12_lookAtRound 4 (some .int), Cond.methodLink RX12 162 yX12_lookAtAll, Cond.instanceMethod yX12_lookAtAll, Cond.selects RX12 yX12_lookAtAll yX12_lookAtAll, Cond.code yX12_lookAtAll cX12_lookAtAll 13 (some .int), Cond.methodLink RX12 226 yX12_told, Cond.instanceMethod yX12_told, Cond.selects RX12 yX12_told yX12_told, Cond.code yX12_told cX12_told 2 (some .long), Cond.methodLink RX12 212 yX12_out, Cond.instanceMethod yX12_out]
def wsX12_fold_r7 : List Cond := [Cond.selects RX12 yX12_out yX12_out, Cond.code yX12_out cX12_out 1 (some .long), Cond.methodLink RX12 216 yX12_failed, Cond.instanceMethod yX12_failed, Cond.selects RX12 yX12_failed yX12_failed, Cond.code yX12_failed cX12_failed 2 (some .long), Cond.methodLink RX12 229 yX12_work, Cond.instanceMethod yX12_work, Cond.selects RX12 yX12_work yX12_work, Cond.code yX12_work cX12_work 4 (some .int)]
def wsX12_fold : List Cond := .code yX12_fold cX12_fold 9 (some .long) :: ((wsX12_fold_r1 ++ (wsX12_fold_r2 ++ (wsX12_fold_r3 ++ (wsX12_fold_r4 ++ (wsX12_fold_r5 ++ (wsX12_fold_r6 ++ wsX12_fold_r7)))))) ++ wsX120)
def wsX12_find_r1 : List Cond := [Cond.fieldLink RX12 63 "NeededListsModel" "thrown" "I", Cond.constantLong RX12 232 (-1), Cond.fieldLink RX12 119 "NeededListsModel" "gotValue" "J", Cond.methodLink RX12 84 yX12_isList, Cond.instanceMethod yX12_isList, Cond.selects RX12 yX12_isList yX12_isList, Cond.initialized RX12, Cond.code yX12_isList cX12_isList 2 (some .boolean), Cond.fieldLink RX12 66 "NeededListsModel" "lists" "I", Cond.methodLink RX12 72 yX12_fail, Cond.instanceMethod yX12_fail, Cond.selects RX12 yX12_fail yX12_fail, Cond.code yX12_fail cX12_fail 2 (some .int), Cond.methodLink RX12 91 yX12_isCond, Cond.static yX12_isCond, Cond.code yX12_isCond cX12_isCond 1 (some .boolean), Cond.methodLink RX12 220 yX12_begin, Cond.instanceMethod yX12_begin, Cond.selects RX12 yX12_begin yX12_begin, Cond.code yX12_begin cX12_begin 1 none, Cond.fieldLink RX12 200 "NeededListsModel" "spent" "I", Cond.fieldLink RX12 203 "NeededListsModel" "outcome" "I", Cond.fieldLink RX12 206 "NeededListsModel" "error" "I", Cond.methodLink RX12 223 yX12_reach]
def wsX12_find_r2 : List Cond := [Cond.instanceMethod yX12_reach, Cond.selects RX12 yX12_reach yX12_reach, Cond.code yX12_reach cX12_reach 3 (some .int), Cond.fieldLink RX12 29 "NeededListsModel" "cell" "[I", Cond.methodLink RX12 106 yX12_place, Cond.static yX12_place, Cond.code yX12_place cX12_place 2 (some .int), Cond.methodLink RX12 209 yX12_meet, Cond.instanceMethod yX12_meet, Cond.selects RX12 yX12_meet yX12_meet, Cond.code yX12_meet cX12_meet 6 (some .boolean), Cond.fieldLink RX12 60 "NeededListsModel" "pile" "[I", Cond.fieldLink RX12 32 "NeededListsModel" "item" "[I", Cond.fieldLink RX12 50 "NeededListsModel" "purse" "I", Cond.fieldLink RX12 122 "NeededListsModel" "becomes" "I", Cond.fieldLink RX12 35 "NeededListsModel" "value" "[J", Cond.fieldLink RX12 179 "NeededListsModel" "becomesValue" "J", Cond.fieldLink RX12 38 "NeededListsModel" "shareList" "[I", Cond.fieldLink RX12 125 "NeededListsModel" "becomesList" "I", Cond.fieldLink RX12 41 "NeededListsModel" "shareCell" "[I", Cond.fieldLink RX12 128 "NeededListsModel" "becomesCell" "I", Cond.methodLink RX12 194 yX12_lookAtItem, Cond.instanceMethod yX12_lookAtItem, Cond.selects RX12 yX12_lookAtItem yX12_lookAtItem]
def wsX12_find_r3 : List Cond := [Cond.code yX12_lookAtItem cX12_lookAtItem 5 (some .int), Cond.fieldLink RX12 13 "NeededListsModel" "first" "[I", Cond.fieldLink RX12 7 "NeededListsModel" "sort" "[I", Cond.fieldLink RX12 54 "NeededListsModel" "givenItem" "[I", Cond.fieldLink RX12 57 "NeededListsModel" "givenValue" "[J", Cond.fieldLink RX12 22 "NeededListsModel" "number" "[J", Cond.fieldLink RX12 26 "NeededListsModel" "other" "[J", Cond.fieldLink RX12 19 "NeededListsModel" "code" "[I", Cond.fieldLink RX12 16 "NeededListsModel" "second" "[I", Cond.fieldLink RX12 176 "NeededListsModel" "runSize" "I", Cond.methodLink RX12 182 yX12_is, Cond.instanceMethod yX12_is, Cond.selects RX12 yX12_is yX12_is, Cond.code yX12_is cX12_is 3 (some .int), Cond.methodLink RX12 186 yX12_ofItems, Cond.instanceMethod yX12_ofItems, Cond.selects RX12 yX12_ofItems yX12_ofItems, Cond.code yX12_ofItems cX12_ofItems 13 (some .int), Cond.fieldLink RX12 110 "NeededListsModel" "got" "I", Cond.fieldLink RX12 98 "NeededListsModel" "opValue" "J", Cond.methodLink RX12 165 yX12_needItem, Cond.instanceMethod yX12_needItem, Cond.selects RX12 yX12_needItem yX12_needItem, Cond.code yX12_needItem cX12_needItem 4 (some .int)]
def wsX12_find_r4 : List Cond := [Cond.methodLink RX12 116 yX12_ownPlace, Cond.instanceMethod yX12_ownPlace, Cond.selects RX12 yX12_ownPlace yX12_ownPlace, Cond.code yX12_ownPlace cX12_ownPlace 4 (some .int), Cond.methodLink RX12 190 yX12_op, Cond.instanceMethod yX12_op, Cond.selects RX12 yX12_op yX12_op, Cond.code yX12_op cX12_op 8 (some .int), Cond.methodLink RX12 102 yX12_floor, Cond.static yX12_floor, Cond.code yX12_floor cX12_floor 6 (some .long), Cond.methodLink RX12 159 yX12_lookAtRun, Cond.instanceMethod yX12_lookAtRun, Cond.selects RX12 yX12_lookAtRun yX12_lookAtRun, Cond.code yX12_lookAtRun cX12_lookAtRun 9 (some .int), Cond.methodLink RX12 137 yX12_as, Cond.instanceMethod yX12_as, Cond.selects RX12 yX12_as yX12_as, Cond.code yX12_as cX12_as 2 (some .int), Cond.methodLink RX12 131 yX12_needCell, Cond.instanceMethod yX12_needCell, Cond.selects RX12 yX12_needCell yX12_needCell, Cond.code yX12_needCell cX12_needCell 4 (some .int), Cond.fieldLink RX12 113 "NeededListsModel" "gotAt" "I"]
def wsX12_find_r5 : List Cond := [Cond.methodLink RX12 197 yX12_lookAtCell, Cond.instanceMethod yX12_lookAtCell, Cond.selects RX12 yX12_lookAtCell yX12_lookAtCell, Cond.code yX12_lookAtCell cX12_lookAtCell 4 (some .int), Cond.methodLink RX12 140 yX12_like, Cond.instanceMethod yX12_like, Cond.selects RX12 yX12_like yX12_like, Cond.code yX12_like cX12_like 5 (some .int), Cond.methodLink RX12 134 yX12_shares, Cond.instanceMethod yX12_shares, Cond.selects RX12 yX12_shares yX12_shares, Cond.code yX12_shares cX12_shares 3 (some .int), Cond.methodLink RX12 144 yX12_lookAtBoth, Cond.instanceMethod yX12_lookAtBoth, Cond.selects RX12 yX12_lookAtBoth yX12_lookAtBoth, Cond.code yX12_lookAtBoth cX12_lookAtBoth 5 (some .int), Cond.methodLink RX12 147 yX12_lookOn, Cond.instanceMethod yX12_lookOn, Cond.selects RX12 yX12_lookOn yX12_lookOn, Cond.code yX12_lookOn cX12_lookOn 6 (some .int), Cond.methodLink RX12 168 yX12_isRight, Cond.instanceMethod yX12_isRight, Cond.selects RX12 yX12_isRight yX12_isRight, Cond.code yX12_isRight cX12_isRight 7 (some .boolean)]
def wsX12_find_r6 : List Cond := [Cond.methodLink RX12 172 yX12_meets, Cond.static yX12_meets, Cond.code yX12_meets cX12_meets 5 (some .boolean), Cond.methodLink RX12 150 yX12_lookAtDuring, Cond.instanceMethod yX12_lookAtDuring, Cond.selects RX12 yX12_lookAtDuring yX12_lookAtDuring, Cond.code yX12_lookAtDuring cX12_lookAtDuring 5 (some .int), Cond.methodLink RX12 153 yX12_lookAtJoin, Cond.instanceMethod yX12_lookAtJoin, Cond.selects RX12 yX12_lookAtJoin yX12_lookAtJoin, Cond.code yX12_lookAtJoin cX12_lookAtJoin 5 (some .int), Cond.methodLink RX12 156 yX12_lookAtRound, Cond.instanceMethod yX12_lookAtRound, Cond.selects RX12 yX12_lookAtRound yX12_lookAtRound, Cond.code yX12_lookAtRound cX12_lookAtRound 4 (some .int), Cond.methodLink RX12 162 yX12_lookAtAll, Cond.instanceMethod yX12_lookAtAll, Cond.selects RX12 yX12_lookAtAll yX12_lookAtAll, Cond.code yX12_lookAtAll cX12_lookAtAll 13 (some .int), Cond.methodLink RX12 226 yX12_told, Cond.instanceMethod yX12_told, Cond.selects RX12 yX12_told yX12_told, Cond.code yX12_told cX12_told 2 (some .long), Cond.methodLink RX12 212 yX12_out]
def wsX12_find_r7 : List Cond := [Cond.instanceMethod yX12_out, Cond.selects RX12 yX12_out yX12_out, Cond.code yX12_out cX12_out 1 (some .long), Cond.methodLink RX12 216 yX12_failed, Cond.instanceMethod yX12_failed, Cond.selects RX12 yX12_failed yX12_failed, Cond.code yX12_failed cX12_failed 2 (some .long), Cond.methodLink RX12 229 yX12_work, Cond.instanceMethod yX12_work, Cond.selects RX12 yX12_work yX12_work, Cond.code yX12_work cX12_work 4 (some .int)]
def wsX12_find : List Cond := .code yX12_find cX12_find 7 (some .long) :: ((wsX12_find_r1 ++ (wsX12_find_r2 ++ (wsX12_find_r3 ++ (wsX12_find_r4 ++ (wsX12_find_r5 ++ (wsX12_find_r6 ++ wsX12_find_r7)))))) ++ wsX120)
def wsX12_last_r1 : List Cond := [Cond.fieldLink RX12 63 "NeededListsModel" "thrown" "I", Cond.methodLink RX12 84 yX12_isList, Cond.instanceMethod yX12_isList, Cond.selects RX12 yX12_isList yX12_isList, Cond.initialized RX12, Cond.code yX12_isList cX12_isList 2 (some .boolean), Cond.fieldLink RX12 66 "NeededListsModel" "lists" "I", Cond.methodLink RX12 72 yX12_fail, Cond.instanceMethod yX12_fail, Cond.selects RX12 yX12_fail yX12_fail, Cond.code yX12_fail cX12_fail 2 (some .int), Cond.methodLink RX12 220 yX12_begin, Cond.instanceMethod yX12_begin, Cond.selects RX12 yX12_begin yX12_begin, Cond.code yX12_begin cX12_begin 1 none, Cond.fieldLink RX12 200 "NeededListsModel" "spent" "I", Cond.fieldLink RX12 203 "NeededListsModel" "outcome" "I", Cond.fieldLink RX12 206 "NeededListsModel" "error" "I", Cond.methodLink RX12 223 yX12_reach, Cond.instanceMethod yX12_reach, Cond.selects RX12 yX12_reach yX12_reach, Cond.code yX12_reach cX12_reach 3 (some .int), Cond.fieldLink RX12 29 "NeededListsModel" "cell" "[I", Cond.methodLink RX12 106 yX12_place]
def wsX12_last_r2 : List Cond := [Cond.static yX12_place, Cond.code yX12_place cX12_place 2 (some .int), Cond.methodLink RX12 209 yX12_meet, Cond.instanceMethod yX12_meet, Cond.selects RX12 yX12_meet yX12_meet, Cond.code yX12_meet cX12_meet 6 (some .boolean), Cond.fieldLink RX12 60 "NeededListsModel" "pile" "[I", Cond.fieldLink RX12 32 "NeededListsModel" "item" "[I", Cond.fieldLink RX12 50 "NeededListsModel" "purse" "I", Cond.fieldLink RX12 122 "NeededListsModel" "becomes" "I", Cond.fieldLink RX12 35 "NeededListsModel" "value" "[J", Cond.fieldLink RX12 179 "NeededListsModel" "becomesValue" "J", Cond.fieldLink RX12 38 "NeededListsModel" "shareList" "[I", Cond.fieldLink RX12 125 "NeededListsModel" "becomesList" "I", Cond.fieldLink RX12 41 "NeededListsModel" "shareCell" "[I", Cond.fieldLink RX12 128 "NeededListsModel" "becomesCell" "I", Cond.methodLink RX12 194 yX12_lookAtItem, Cond.instanceMethod yX12_lookAtItem, Cond.selects RX12 yX12_lookAtItem yX12_lookAtItem, Cond.code yX12_lookAtItem cX12_lookAtItem 5 (some .int), Cond.fieldLink RX12 13 "NeededListsModel" "first" "[I", Cond.fieldLink RX12 7 "NeededListsModel" "sort" "[I", Cond.fieldLink RX12 54 "NeededListsModel" "givenItem" "[I", Cond.fieldLink RX12 57 "NeededListsModel" "givenValue" "[J"]
def wsX12_last_r3 : List Cond := [Cond.fieldLink RX12 22 "NeededListsModel" "number" "[J", Cond.fieldLink RX12 26 "NeededListsModel" "other" "[J", Cond.fieldLink RX12 19 "NeededListsModel" "code" "[I", Cond.fieldLink RX12 16 "NeededListsModel" "second" "[I", Cond.fieldLink RX12 176 "NeededListsModel" "runSize" "I", Cond.methodLink RX12 182 yX12_is, Cond.instanceMethod yX12_is, Cond.selects RX12 yX12_is yX12_is, Cond.code yX12_is cX12_is 3 (some .int), Cond.methodLink RX12 186 yX12_ofItems, Cond.instanceMethod yX12_ofItems, Cond.selects RX12 yX12_ofItems yX12_ofItems, Cond.code yX12_ofItems cX12_ofItems 13 (some .int), Cond.fieldLink RX12 110 "NeededListsModel" "got" "I", Cond.fieldLink RX12 119 "NeededListsModel" "gotValue" "J", Cond.fieldLink RX12 98 "NeededListsModel" "opValue" "J", Cond.methodLink RX12 165 yX12_needItem, Cond.instanceMethod yX12_needItem, Cond.selects RX12 yX12_needItem yX12_needItem, Cond.code yX12_needItem cX12_needItem 4 (some .int), Cond.methodLink RX12 116 yX12_ownPlace, Cond.instanceMethod yX12_ownPlace, Cond.selects RX12 yX12_ownPlace yX12_ownPlace, Cond.code yX12_ownPlace cX12_ownPlace 4 (some .int)]
def wsX12_last_r4 : List Cond := [Cond.methodLink RX12 190 yX12_op, Cond.instanceMethod yX12_op, Cond.selects RX12 yX12_op yX12_op, Cond.code yX12_op cX12_op 8 (some .int), Cond.methodLink RX12 102 yX12_floor, Cond.static yX12_floor, Cond.code yX12_floor cX12_floor 6 (some .long), Cond.methodLink RX12 159 yX12_lookAtRun, Cond.instanceMethod yX12_lookAtRun, Cond.selects RX12 yX12_lookAtRun yX12_lookAtRun, Cond.code yX12_lookAtRun cX12_lookAtRun 9 (some .int), Cond.methodLink RX12 137 yX12_as, Cond.instanceMethod yX12_as, Cond.selects RX12 yX12_as yX12_as, Cond.code yX12_as cX12_as 2 (some .int), Cond.methodLink RX12 131 yX12_needCell, Cond.instanceMethod yX12_needCell, Cond.selects RX12 yX12_needCell yX12_needCell, Cond.code yX12_needCell cX12_needCell 4 (some .int), Cond.fieldLink RX12 113 "NeededListsModel" "gotAt" "I", Cond.methodLink RX12 197 yX12_lookAtCell, Cond.instanceMethod yX12_lookAtCell, Cond.selects RX12 yX12_lookAtCell yX12_lookAtCell, Cond.code yX12_lookAtCell cX12_lookAtCell 4 (some .int)]
def wsX12_last_r5 : List Cond := [Cond.methodLink RX12 140 yX12_like, Cond.instanceMethod yX12_like, Cond.selects RX12 yX12_like yX12_like, Cond.code yX12_like cX12_like 5 (some .int), Cond.methodLink RX12 134 yX12_shares, Cond.instanceMethod yX12_shares, Cond.selects RX12 yX12_shares yX12_shares, Cond.code yX12_shares cX12_shares 3 (some .int), Cond.methodLink RX12 144 yX12_lookAtBoth, Cond.instanceMethod yX12_lookAtBoth, Cond.selects RX12 yX12_lookAtBoth yX12_lookAtBoth, Cond.code yX12_lookAtBoth cX12_lookAtBoth 5 (some .int), Cond.methodLink RX12 147 yX12_lookOn, Cond.instanceMethod yX12_lookOn, Cond.selects RX12 yX12_lookOn yX12_lookOn, Cond.code yX12_lookOn cX12_lookOn 6 (some .int), Cond.methodLink RX12 168 yX12_isRight, Cond.instanceMethod yX12_isRight, Cond.selects RX12 yX12_isRight yX12_isRight, Cond.code yX12_isRight cX12_isRight 7 (some .boolean), Cond.methodLink RX12 172 yX12_meets, Cond.static yX12_meets, Cond.code yX12_meets cX12_meets 5 (some .boolean), Cond.methodLink RX12 150 yX12_lookAtDuring]
def wsX12_last_r6 : List Cond := [Cond.instanceMethod yX12_lookAtDuring, Cond.selects RX12 yX12_lookAtDuring yX12_lookAtDuring, Cond.code yX12_lookAtDuring cX12_lookAtDuring 5 (some .int), Cond.methodLink RX12 153 yX12_lookAtJoin, Cond.instanceMethod yX12_lookAtJoin, Cond.selects RX12 yX12_lookAtJoin yX12_lookAtJoin, Cond.code yX12_lookAtJoin cX12_lookAtJoin 5 (some .int), Cond.methodLink RX12 156 yX12_lookAtRound, Cond.instanceMethod yX12_lookAtRound, Cond.selects RX12 yX12_lookAtRound yX12_lookAtRound, Cond.code yX12_lookAtRound cX12_lookAtRound 4 (some .int), Cond.methodLink RX12 162 yX12_lookAtAll, Cond.instanceMethod yX12_lookAtAll, Cond.selects RX12 yX12_lookAtAll yX12_lookAtAll, Cond.code yX12_lookAtAll cX12_lookAtAll 13 (some .int), Cond.methodLink RX12 216 yX12_failed, Cond.instanceMethod yX12_failed, Cond.selects RX12 yX12_failed yX12_failed, Cond.code yX12_failed cX12_failed 2 (some .long), Cond.methodLink RX12 229 yX12_work, Cond.instanceMethod yX12_work, Cond.selects RX12 yX12_work yX12_work, Cond.code yX12_work cX12_work 4 (some .int), Cond.methodLink RX12 226 yX12_told]
def wsX12_last_r7 : List Cond := [Cond.instanceMethod yX12_told, Cond.selects RX12 yX12_told yX12_told, Cond.code yX12_told cX12_told 2 (some .long), Cond.methodLink RX12 212 yX12_out, Cond.instanceMethod yX12_out, Cond.selects RX12 yX12_out yX12_out, Cond.code yX12_out cX12_out 1 (some .long)]
def wsX12_last : List Cond := .code yX12_last cX12_last 4 (some .long) :: ((wsX12_last_r1 ++ (wsX12_last_r2 ++ (wsX12_last_r3 ++ (wsX12_last_r4 ++ (wsX12_last_r5 ++ (wsX12_last_r6 ++ wsX12_last_r7)))))) ++ wsX120)
def wsX12_outcome : List Cond := .code yX12_outcome cX12_outcome 1 (some .int) :: ([.fieldLink RX12 63 "NeededListsModel" "thrown" "I", .fieldLink RX12 203 "NeededListsModel" "outcome" "I"] ++ wsX120)
def wsX12_error : List Cond := .code yX12_error cX12_error 1 (some .int) :: ([.fieldLink RX12 63 "NeededListsModel" "thrown" "I", .fieldLink RX12 206 "NeededListsModel" "error" "I"] ++ wsX120)
def wsX12_spent : List Cond := .code yX12_spent cX12_spent 1 (some .int) :: ([.fieldLink RX12 63 "NeededListsModel" "thrown" "I", .fieldLink RX12 200 "NeededListsModel" "spent" "I"] ++ wsX120)
def wsX12_reached : List Cond := .code yX12_reached cX12_reached 3 (some .int) :: ([.fieldLink RX12 63 "NeededListsModel" "thrown" "I", .fieldLink RX12 29 "NeededListsModel" "cell" "[I", .methodLink RX12 84 yX12_isList, .instanceMethod yX12_isList, .selects RX12 yX12_isList yX12_isList, .initialized RX12, .code yX12_isList cX12_isList 2 (some .boolean), .fieldLink RX12 66 "NeededListsModel" "lists" "I", .methodLink RX12 72 yX12_fail, .instanceMethod yX12_fail, .selects RX12 yX12_fail yX12_fail, .code yX12_fail cX12_fail 2 (some .int), .methodLink RX12 106 yX12_place, .static yX12_place, .code yX12_place cX12_place 2 (some .int)] ++ wsX120)
def wsX12_worked : List Cond := .code yX12_worked cX12_worked 3 (some .boolean) :: ([.fieldLink RX12 63 "NeededListsModel" "thrown" "I", .fieldLink RX12 29 "NeededListsModel" "cell" "[I", .fieldLink RX12 32 "NeededListsModel" "item" "[I", .methodLink RX12 84 yX12_isList, .instanceMethod yX12_isList, .selects RX12 yX12_isList yX12_isList, .initialized RX12, .code yX12_isList cX12_isList 2 (some .boolean), .fieldLink RX12 66 "NeededListsModel" "lists" "I", .methodLink RX12 72 yX12_fail, .instanceMethod yX12_fail, .selects RX12 yX12_fail yX12_fail, .code yX12_fail cX12_fail 2 (some .int), .methodLink RX12 106 yX12_place, .static yX12_place, .code yX12_place cX12_place 2 (some .int), .methodLink RX12 116 yX12_ownPlace, .instanceMethod yX12_ownPlace, .selects RX12 yX12_ownPlace yX12_ownPlace, .code yX12_ownPlace cX12_ownPlace 4 (some .int), .fieldLink RX12 38 "NeededListsModel" "shareList" "[I", .fieldLink RX12 41 "NeededListsModel" "shareCell" "[I"] ++ wsX120)
def wsX12_lists : List Cond := .code yX12_lists cX12_lists 1 (some .int) :: ([.fieldLink RX12 63 "NeededListsModel" "thrown" "I", .fieldLink RX12 66 "NeededListsModel" "lists" "I"] ++ wsX120)
theorem dX12_thrown_0 : decode cX12_thrown 0 = .ok (.aload_n 0, 1) := by decide +kernel
theorem dX12_thrown_1 : decode cX12_thrown 1 = .ok (.getfield 63, 3) := by decide +kernel
theorem dX12_thrown_4 : decode cX12_thrown 4 = .ok (.ireturn, 1) := by decide +kernel
theorem dX12_fail_0 : decode cX12_fail 0 = .ok (.aload_n 0, 1) := by decide +kernel
theorem dX12_fail_1 : decode cX12_fail 1 = .ok (.iload_n 1, 1) := by decide +kernel
theorem dX12_fail_2 : decode cX12_fail 2 = .ok (.putfield 63, 3) := by decide +kernel
theorem dX12_fail_5 : decode cX12_fail 5 = .ok (.iconst 0, 1) := by decide +kernel
theorem dX12_fail_6 : decode cX12_fail 6 = .ok (.ireturn, 1) := by decide +kernel
theorem dX12_isList_0 : decode cX12_isList 0 = .ok (.iload_n 1, 1) := by decide +kernel
theorem dX12_isList_1 : decode cX12_isList 1 = .ok (.ifCond .lt 15, 3) := by decide +kernel
theorem dX12_isList_4 : decode cX12_isList 4 = .ok (.iload_n 1, 1) := by decide +kernel
theorem dX12_isList_5 : decode cX12_isList 5 = .ok (.aload_n 0, 1) := by decide +kernel
theorem dX12_isList_6 : decode cX12_isList 6 = .ok (.getfield 66, 3) := by decide +kernel
theorem dX12_isList_9 : decode cX12_isList 9 = .ok (.if_icmp .ge 7, 3) := by decide +kernel
theorem dX12_isList_16 : decode cX12_isList 16 = .ok (.iconst 0, 1) := by decide +kernel
theorem dX12_isList_17 : decode cX12_isList 17 = .ok (.ireturn, 1) := by decide +kernel
theorem dX12_made_0 : decode cX12_made 0 = .ok (.aload_n 0, 1) := by decide +kernel
theorem dX12_made_1 : decode cX12_made 1 = .ok (.getfield 7, 3) := by decide +kernel
theorem dX12_made_4 : decode cX12_made 4 = .ok (.aload_n 0, 1) := by decide +kernel
theorem dX12_made_5 : decode cX12_made 5 = .ok (.getfield 66, 3) := by decide +kernel
theorem dX12_made_8 : decode cX12_made 8 = .ok (.iload_n 1, 1) := by decide +kernel
theorem dX12_made_9 : decode cX12_made 9 = .ok (.iastore, 1) := by decide +kernel
theorem dX12_made_10 : decode cX12_made 10 = .ok (.aload_n 0, 1) := by decide +kernel
theorem dX12_made_11 : decode cX12_made 11 = .ok (.getfield 13, 3) := by decide +kernel
theorem dX12_made_14 : decode cX12_made 14 = .ok (.aload_n 0, 1) := by decide +kernel
theorem dX12_made_15 : decode cX12_made 15 = .ok (.getfield 66, 3) := by decide +kernel
theorem dX12_made_18 : decode cX12_made 18 = .ok (.iload_n 2, 1) := by decide +kernel
theorem dX12_made_19 : decode cX12_made 19 = .ok (.iastore, 1) := by decide +kernel
theorem dX12_made_20 : decode cX12_made 20 = .ok (.aload_n 0, 1) := by decide +kernel
theorem dX12_made_21 : decode cX12_made 21 = .ok (.getfield 16, 3) := by decide +kernel
theorem dX12_made_24 : decode cX12_made 24 = .ok (.aload_n 0, 1) := by decide +kernel
theorem dX12_made_25 : decode cX12_made 25 = .ok (.getfield 66, 3) := by decide +kernel
theorem dX12_made_28 : decode cX12_made 28 = .ok (.iload_n 3, 1) := by decide +kernel
theorem dX12_made_29 : decode cX12_made 29 = .ok (.iastore, 1) := by decide +kernel
theorem dX12_made_30 : decode cX12_made 30 = .ok (.aload_n 0, 1) := by decide +kernel
theorem dX12_made_31 : decode cX12_made 31 = .ok (.getfield 19, 3) := by decide +kernel
theorem dX12_made_34 : decode cX12_made 34 = .ok (.aload_n 0, 1) := by decide +kernel
theorem dX12_made_35 : decode cX12_made 35 = .ok (.getfield 66, 3) := by decide +kernel
theorem dX12_made_38 : decode cX12_made 38 = .ok (.iload 4, 2) := by decide +kernel
theorem dX12_made_40 : decode cX12_made 40 = .ok (.iastore, 1) := by decide +kernel
theorem dX12_made_41 : decode cX12_made 41 = .ok (.aload_n 0, 1) := by decide +kernel
theorem dX12_made_42 : decode cX12_made 42 = .ok (.getfield 22, 3) := by decide +kernel
theorem dX12_made_45 : decode cX12_made 45 = .ok (.aload_n 0, 1) := by decide +kernel
theorem dX12_made_46 : decode cX12_made 46 = .ok (.getfield 66, 3) := by decide +kernel
theorem dX12_made_49 : decode cX12_made 49 = .ok (.lload 5, 2) := by decide +kernel
theorem dX12_made_51 : decode cX12_made 51 = .ok (.lastore, 1) := by decide +kernel
theorem dX12_made_52 : decode cX12_made 52 = .ok (.aload_n 0, 1) := by decide +kernel
theorem dX12_made_53 : decode cX12_made 53 = .ok (.getfield 26, 3) := by decide +kernel
theorem dX12_made_56 : decode cX12_made 56 = .ok (.aload_n 0, 1) := by decide +kernel
theorem dX12_made_57 : decode cX12_made 57 = .ok (.getfield 66, 3) := by decide +kernel
theorem dX12_made_60 : decode cX12_made 60 = .ok (.lload 7, 2) := by decide +kernel
theorem dX12_made_62 : decode cX12_made 62 = .ok (.lastore, 1) := by decide +kernel
theorem dX12_made_63 : decode cX12_made 63 = .ok (.aload_n 0, 1) := by decide +kernel
theorem dX12_made_64 : decode cX12_made 64 = .ok (.dup, 1) := by decide +kernel
theorem dX12_made_65 : decode cX12_made 65 = .ok (.getfield 66, 3) := by decide +kernel
theorem dX12_made_68 : decode cX12_made 68 = .ok (.iconst 1, 1) := by decide +kernel
theorem dX12_made_69 : decode cX12_made 69 = .ok (.iadd, 1) := by decide +kernel
theorem dX12_made_70 : decode cX12_made 70 = .ok (.putfield 66, 3) := by decide +kernel
theorem dX12_made_73 : decode cX12_made 73 = .ok (.aload_n 0, 1) := by decide +kernel
theorem dX12_made_74 : decode cX12_made 74 = .ok (.getfield 66, 3) := by decide +kernel
theorem dX12_made_77 : decode cX12_made 77 = .ok (.iconst 1, 1) := by decide +kernel
theorem dX12_made_78 : decode cX12_made 78 = .ok (.isub, 1) := by decide +kernel
theorem dX12_made_79 : decode cX12_made 79 = .ok (.ireturn, 1) := by decide +kernel
theorem dX12_put_0 : decode cX12_put 0 = .ok (.aload_n 0, 1) := by decide +kernel
theorem dX12_put_1 : decode cX12_put 1 = .ok (.iconst 0, 1) := by decide +kernel
theorem dX12_put_2 : decode cX12_put 2 = .ok (.putfield 63, 3) := by decide +kernel
theorem dX12_put_5 : decode cX12_put 5 = .ok (.aload_n 0, 1) := by decide +kernel
theorem dX12_put_6 : decode cX12_put 6 = .ok (.getfield 69, 3) := by decide +kernel
theorem dX12_put_9 : decode cX12_put 9 = .ok (.bipush 100, 2) := by decide +kernel
theorem dX12_put_11 : decode cX12_put 11 = .ok (.if_icmp .ne 9, 3) := by decide +kernel
theorem dX12_put_20 : decode cX12_put 20 = .ok (.aload_n 0, 1) := by decide +kernel
theorem dX12_put_21 : decode cX12_put 21 = .ok (.getfield 44, 3) := by decide +kernel
theorem dX12_put_24 : decode cX12_put 24 = .ok (.aload_n 0, 1) := by decide +kernel
theorem dX12_put_25 : decode cX12_put 25 = .ok (.getfield 69, 3) := by decide +kernel
theorem dX12_put_28 : decode cX12_put 28 = .ok (.iconst 1, 1) := by decide +kernel
theorem dX12_put_29 : decode cX12_put 29 = .ok (.iastore, 1) := by decide +kernel
theorem dX12_put_30 : decode cX12_put 30 = .ok (.aload_n 0, 1) := by decide +kernel
theorem dX12_put_31 : decode cX12_put 31 = .ok (.getfield 47, 3) := by decide +kernel
theorem dX12_put_34 : decode cX12_put 34 = .ok (.aload_n 0, 1) := by decide +kernel
theorem dX12_put_35 : decode cX12_put 35 = .ok (.getfield 69, 3) := by decide +kernel
theorem dX12_put_38 : decode cX12_put 38 = .ok (.lload_n 1, 1) := by decide +kernel
theorem dX12_put_39 : decode cX12_put 39 = .ok (.lastore, 1) := by decide +kernel
theorem dX12_put_40 : decode cX12_put 40 = .ok (.aload_n 0, 1) := by decide +kernel
theorem dX12_put_41 : decode cX12_put 41 = .ok (.dup, 1) := by decide +kernel
theorem dX12_put_42 : decode cX12_put 42 = .ok (.getfield 69, 3) := by decide +kernel
theorem dX12_put_45 : decode cX12_put 45 = .ok (.iconst 1, 1) := by decide +kernel
theorem dX12_put_46 : decode cX12_put 46 = .ok (.iadd, 1) := by decide +kernel
theorem dX12_put_47 : decode cX12_put 47 = .ok (.putfield 69, 3) := by decide +kernel
theorem dX12_put_50 : decode cX12_put 50 = .ok (.aload_n 0, 1) := by decide +kernel
theorem dX12_put_51 : decode cX12_put 51 = .ok (.getfield 69, 3) := by decide +kernel
theorem dX12_put_54 : decode cX12_put 54 = .ok (.ireturn, 1) := by decide +kernel
set_option maxRecDepth 20000 in
theorem ggX12_hole_X12_fail : GoodIn wsX12_hole wsX12_fail := goodIn_r _ [8, 1, 9, 10, 11, 12, 13, 14, 15, 16, 17, 18, 19, 20, 21, 22, 23, 24, 25, 26, 27, 28, 29, 30, 31, 32, 33, 34, 35, 36, 37, 38, 39, 40] (by decide +kernel) (by decide +kernel)
set_option maxRecDepth 20000 in
theorem gX12_hole_X12_fail : GoodIn wsX12_hole (wsV RX12 72 RX12 yX12_fail wsX12_fail) := goodIn_app (goodIn_of _ (by decide +kernel)) ggX12_hole_X12_fail
theorem dX12_hole_0 : decode cX12_hole 0 = .ok (.aload_n 0, 1) := by decide +kernel
theorem dX12_hole_1 : decode cX12_hole 1 = .ok (.iconst 0, 1) := by decide +kernel
theorem dX12_hole_2 : decode cX12_hole 2 = .ok (.putfield 63, 3) := by decide +kernel
theorem dX12_hole_5 : decode cX12_hole 5 = .ok (.iload_n 1, 1) := by decide +kernel
theorem dX12_hole_6 : decode cX12_hole 6 = .ok (.ifCond .eq 14, 3) := by decide +kernel
theorem dX12_hole_9 : decode cX12_hole 9 = .ok (.iload_n 1, 1) := by decide +kernel
theorem dX12_hole_10 : decode cX12_hole 10 = .ok (.iconst 1, 1) := by decide +kernel
theorem dX12_hole_11 : decode cX12_hole 11 = .ok (.if_icmp .eq 9, 3) := by decide +kernel
theorem dX12_hole_14 : decode cX12_hole 14 = .ok (.aload_n 0, 1) := by decide +kernel
theorem dX12_hole_15 : decode cX12_hole 15 = .ok (.iconst 1, 1) := by decide +kernel
theorem dX12_hole_16 : decode cX12_hole 16 = .ok (.invokevirtual 72, 3) := by decide +kernel
theorem dX12_hole_19 : decode cX12_hole 19 = .ok (.ireturn, 1) := by decide +kernel
theorem dX12_hole_20 : decode cX12_hole 20 = .ok (.aload_n 0, 1) := by decide +kernel
theorem dX12_hole_21 : decode cX12_hole 21 = .ok (.getfield 69, 3) := by decide +kernel
theorem dX12_hole_24 : decode cX12_hole 24 = .ok (.bipush 100, 2) := by decide +kernel
theorem dX12_hole_26 : decode cX12_hole 26 = .ok (.if_icmp .ne 9, 3) := by decide +kernel
theorem dX12_hole_35 : decode cX12_hole 35 = .ok (.aload_n 0, 1) := by decide +kernel
theorem dX12_hole_36 : decode cX12_hole 36 = .ok (.getfield 44, 3) := by decide +kernel
theorem dX12_hole_39 : decode cX12_hole 39 = .ok (.aload_n 0, 1) := by decide +kernel
theorem dX12_hole_40 : decode cX12_hole 40 = .ok (.getfield 69, 3) := by decide +kernel
theorem dX12_hole_43 : decode cX12_hole 43 = .ok (.iload_n 1, 1) := by decide +kernel
theorem dX12_hole_44 : decode cX12_hole 44 = .ok (.ifCond .ne 7, 3) := by decide +kernel
theorem dX12_hole_47 : decode cX12_hole 47 = .ok (.iconst 3, 1) := by decide +kernel
theorem dX12_hole_48 : decode cX12_hole 48 = .ok (.goto 5, 3) := by decide +kernel
theorem dX12_hole_51 : decode cX12_hole 51 = .ok (.bipush 7, 2) := by decide +kernel
theorem dX12_hole_53 : decode cX12_hole 53 = .ok (.iastore, 1) := by decide +kernel
theorem dX12_hole_54 : decode cX12_hole 54 = .ok (.aload_n 0, 1) := by decide +kernel
theorem dX12_hole_55 : decode cX12_hole 55 = .ok (.dup, 1) := by decide +kernel
theorem dX12_hole_56 : decode cX12_hole 56 = .ok (.getfield 69, 3) := by decide +kernel
theorem dX12_hole_59 : decode cX12_hole 59 = .ok (.iconst 1, 1) := by decide +kernel
theorem dX12_hole_60 : decode cX12_hole 60 = .ok (.iadd, 1) := by decide +kernel
theorem dX12_hole_61 : decode cX12_hole 61 = .ok (.putfield 69, 3) := by decide +kernel
theorem dX12_hole_64 : decode cX12_hole 64 = .ok (.aload_n 0, 1) := by decide +kernel
theorem dX12_hole_65 : decode cX12_hole 65 = .ok (.getfield 69, 3) := by decide +kernel
theorem dX12_hole_68 : decode cX12_hole 68 = .ok (.ireturn, 1) := by decide +kernel
set_option maxRecDepth 20000 in
theorem ggX12_given_X12_made : GoodIn wsX12_given wsX12_made := goodIn_r _ [16, 17, 2, 18, 19, 20, 21, 22, 23, 24, 25, 26, 27, 28, 29, 30, 31, 32, 33, 34, 35, 36, 37, 38, 39, 40, 41, 42, 43, 44, 45, 46, 47, 48, 49, 50, 51, 52, 53, 54] (by decide +kernel) (by decide +kernel)
set_option maxRecDepth 20000 in
theorem gX12_given_X12_made : GoodIn wsX12_given (wsV RX12 76 RX12 yX12_made wsX12_made) := goodIn_app (goodIn_of _ (by decide +kernel)) ggX12_given_X12_made
theorem dX12_given_0 : decode cX12_given 0 = .ok (.aload_n 0, 1) := by decide +kernel
theorem dX12_given_1 : decode cX12_given 1 = .ok (.iconst 0, 1) := by decide +kernel
theorem dX12_given_2 : decode cX12_given 2 = .ok (.putfield 63, 3) := by decide +kernel
theorem dX12_given_5 : decode cX12_given 5 = .ok (.aload_n 0, 1) := by decide +kernel
theorem dX12_given_6 : decode cX12_given 6 = .ok (.getfield 66, 3) := by decide +kernel
theorem dX12_given_9 : decode cX12_given 9 = .ok (.bipush 24, 2) := by decide +kernel
theorem dX12_given_11 : decode cX12_given 11 = .ok (.if_icmp .ne 9, 3) := by decide +kernel
theorem dX12_given_20 : decode cX12_given 20 = .ok (.iconst 0, 1) := by decide +kernel
theorem dX12_given_21 : decode cX12_given 21 = .ok (.istore_n 2, 1) := by decide +kernel
theorem dX12_given_22 : decode cX12_given 22 = .ok (.iload_n 2, 1) := by decide +kernel
theorem dX12_given_23 : decode cX12_given 23 = .ok (.aload_n 0, 1) := by decide +kernel
theorem dX12_given_24 : decode cX12_given 24 = .ok (.getfield 69, 3) := by decide +kernel
theorem dX12_given_27 : decode cX12_given 27 = .ok (.if_icmp .ge 49, 3) := by decide +kernel
theorem dX12_given_76 : decode cX12_given 76 = .ok (.aload_n 0, 1) := by decide +kernel
theorem dX12_given_77 : decode cX12_given 77 = .ok (.getfield 69, 3) := by decide +kernel
theorem dX12_given_80 : decode cX12_given 80 = .ok (.istore_n 2, 1) := by decide +kernel
theorem dX12_given_81 : decode cX12_given 81 = .ok (.aload_n 0, 1) := by decide +kernel
theorem dX12_given_82 : decode cX12_given 82 = .ok (.iconst 0, 1) := by decide +kernel
theorem dX12_given_83 : decode cX12_given 83 = .ok (.putfield 69, 3) := by decide +kernel
theorem dX12_given_86 : decode cX12_given 86 = .ok (.aload_n 0, 1) := by decide +kernel
theorem dX12_given_87 : decode cX12_given 87 = .ok (.iconst 0, 1) := by decide +kernel
theorem dX12_given_88 : decode cX12_given 88 = .ok (.iload_n 2, 1) := by decide +kernel
theorem dX12_given_89 : decode cX12_given 89 = .ok (.iconst 0, 1) := by decide +kernel
theorem dX12_given_90 : decode cX12_given 90 = .ok (.iload_n 1, 1) := by decide +kernel
theorem dX12_given_91 : decode cX12_given 91 = .ok (.ifCond .eq 7, 3) := by decide +kernel
theorem dX12_given_94 : decode cX12_given 94 = .ok (.iconst 1, 1) := by decide +kernel
theorem dX12_given_95 : decode cX12_given 95 = .ok (.goto 4, 3) := by decide +kernel
theorem dX12_given_98 : decode cX12_given 98 = .ok (.iconst 0, 1) := by decide +kernel
theorem dX12_given_99 : decode cX12_given 99 = .ok (.lconst 0, 1) := by decide +kernel
theorem dX12_given_100 : decode cX12_given 100 = .ok (.lconst 0, 1) := by decide +kernel
theorem dX12_given_101 : decode cX12_given 101 = .ok (.invokevirtual 76, 3) := by decide +kernel
theorem dX12_given_104 : decode cX12_given 104 = .ok (.ireturn, 1) := by decide +kernel
set_option maxRecDepth 20000 in
theorem ggX12_count_X12_made : GoodIn wsX12_count wsX12_made := goodIn_r _ [11, 12, 2, 13, 14, 15, 16, 17, 18, 19, 20, 21, 22, 23, 24, 25, 26, 27, 28, 29, 30, 31, 32, 33, 34, 35, 36, 37, 38, 39, 40, 41, 42, 43, 44, 45, 46, 47, 48, 49] (by decide +kernel) (by decide +kernel)
set_option maxRecDepth 20000 in
theorem gX12_count_X12_made : GoodIn wsX12_count (wsV RX12 76 RX12 yX12_made wsX12_made) := goodIn_app (goodIn_of _ (by decide +kernel)) ggX12_count_X12_made
theorem dX12_count_0 : decode cX12_count 0 = .ok (.aload_n 0, 1) := by decide +kernel
theorem dX12_count_1 : decode cX12_count 1 = .ok (.iconst 0, 1) := by decide +kernel
theorem dX12_count_2 : decode cX12_count 2 = .ok (.putfield 63, 3) := by decide +kernel
theorem dX12_count_5 : decode cX12_count 5 = .ok (.aload_n 0, 1) := by decide +kernel
theorem dX12_count_6 : decode cX12_count 6 = .ok (.getfield 66, 3) := by decide +kernel
theorem dX12_count_9 : decode cX12_count 9 = .ok (.bipush 24, 2) := by decide +kernel
theorem dX12_count_11 : decode cX12_count 11 = .ok (.if_icmp .ne 11, 3) := by decide +kernel
theorem dX12_count_22 : decode cX12_count 22 = .ok (.aload_n 0, 1) := by decide +kernel
theorem dX12_count_23 : decode cX12_count 23 = .ok (.iconst 1, 1) := by decide +kernel
theorem dX12_count_24 : decode cX12_count 24 = .ok (.iconst 0, 1) := by decide +kernel
theorem dX12_count_25 : decode cX12_count 25 = .ok (.iconst 0, 1) := by decide +kernel
theorem dX12_count_26 : decode cX12_count 26 = .ok (.iconst 0, 1) := by decide +kernel
theorem dX12_count_27 : decode cX12_count 27 = .ok (.lload_n 1, 1) := by decide +kernel
theorem dX12_count_28 : decode cX12_count 28 = .ok (.lload_n 3, 1) := by decide +kernel
theorem dX12_count_29 : decode cX12_count 29 = .ok (.invokevirtual 76, 3) := by decide +kernel
theorem dX12_count_32 : decode cX12_count 32 = .ok (.ireturn, 1) := by decide +kernel
theorem dX12_isOp_0 : decode cX12_isOp 0 = .ok (.iload_n 0, 1) := by decide +kernel
theorem dX12_isOp_1 : decode cX12_isOp 1 = .ok (.ifCond .lt 13, 3) := by decide +kernel
theorem dX12_isOp_4 : decode cX12_isOp 4 = .ok (.iload_n 0, 1) := by decide +kernel
theorem dX12_isOp_5 : decode cX12_isOp 5 = .ok (.bipush 8, 2) := by decide +kernel
theorem dX12_isOp_7 : decode cX12_isOp 7 = .ok (.if_icmp .gt 7, 3) := by decide +kernel
theorem dX12_isOp_10 : decode cX12_isOp 10 = .ok (.iconst 1, 1) := by decide +kernel
theorem dX12_isOp_11 : decode cX12_isOp 11 = .ok (.goto 4, 3) := by decide +kernel
theorem dX12_isOp_14 : decode cX12_isOp 14 = .ok (.iconst 0, 1) := by decide +kernel
theorem dX12_isOp_15 : decode cX12_isOp 15 = .ok (.ireturn, 1) := by decide +kernel
set_option maxRecDepth 20000 in
theorem ggX12_iterate_X12_isOp : GoodIn wsX12_iterate wsX12_isOp := goodIn_r _ [6] (by decide +kernel) (by decide +kernel)
set_option maxRecDepth 20000 in
theorem gX12_iterate_X12_isOp : GoodIn wsX12_iterate (va_wsS RX12 80 yX12_isOp wsX12_isOp) := goodIn_app (goodIn_of _ (by decide +kernel)) ggX12_iterate_X12_isOp
set_option maxRecDepth 20000 in
theorem ggX12_iterate_X12_fail : GoodIn wsX12_iterate wsX12_fail := goodIn_r _ [10, 1, 21, 22, 23, 24, 25, 26, 27, 28, 29, 30, 31, 32, 33, 34, 35, 36, 37, 38, 39, 40, 41, 42, 43, 44, 45, 46, 47, 48, 49, 50, 51, 52] (by decide +kernel) (by decide +kernel)
set_option maxRecDepth 20000 in
theorem gX12_iterate_X12_fail : GoodIn wsX12_iterate (wsV RX12 72 RX12 yX12_fail wsX12_fail) := goodIn_app (goodIn_of _ (by decide +kernel)) ggX12_iterate_X12_fail
set_option maxRecDepth 20000 in
theorem ggX12_iterate_X12_made : GoodIn wsX12_iterate wsX12_made := goodIn_r _ [14, 15, 2, 16, 17, 18, 19, 20, 21, 22, 23, 24, 25, 26, 27, 28, 29, 30, 31, 32, 33, 34, 35, 36, 37, 38, 39, 40, 41, 42, 43, 44, 45, 46, 47, 48, 49, 50, 51, 52] (by decide +kernel) (by decide +kernel)
set_option maxRecDepth 20000 in
theorem gX12_iterate_X12_made : GoodIn wsX12_iterate (wsV RX12 76 RX12 yX12_made wsX12_made) := goodIn_app (goodIn_of _ (by decide +kernel)) ggX12_iterate_X12_made
theorem dX12_iterate_0 : decode cX12_iterate 0 = .ok (.aload_n 0, 1) := by decide +kernel
theorem dX12_iterate_1 : decode cX12_iterate 1 = .ok (.iconst 0, 1) := by decide +kernel
theorem dX12_iterate_2 : decode cX12_iterate 2 = .ok (.putfield 63, 3) := by decide +kernel
theorem dX12_iterate_5 : decode cX12_iterate 5 = .ok (.iload_n 1, 1) := by decide +kernel
theorem dX12_iterate_6 : decode cX12_iterate 6 = .ok (.invokestatic 80, 3) := by decide +kernel
theorem dX12_iterate_9 : decode cX12_iterate 9 = .ok (.ifCond .ne 9, 3) := by decide +kernel
theorem dX12_iterate_12 : decode cX12_iterate 12 = .ok (.aload_n 0, 1) := by decide +kernel
theorem dX12_iterate_13 : decode cX12_iterate 13 = .ok (.iconst 1, 1) := by decide +kernel
theorem dX12_iterate_14 : decode cX12_iterate 14 = .ok (.invokevirtual 72, 3) := by decide +kernel
theorem dX12_iterate_17 : decode cX12_iterate 17 = .ok (.ireturn, 1) := by decide +kernel
theorem dX12_iterate_18 : decode cX12_iterate 18 = .ok (.aload_n 0, 1) := by decide +kernel
theorem dX12_iterate_19 : decode cX12_iterate 19 = .ok (.getfield 66, 3) := by decide +kernel
theorem dX12_iterate_22 : decode cX12_iterate 22 = .ok (.bipush 24, 2) := by decide +kernel
theorem dX12_iterate_24 : decode cX12_iterate 24 = .ok (.if_icmp .ne 11, 3) := by decide +kernel
theorem dX12_iterate_35 : decode cX12_iterate 35 = .ok (.aload_n 0, 1) := by decide +kernel
theorem dX12_iterate_36 : decode cX12_iterate 36 = .ok (.iconst 2, 1) := by decide +kernel
theorem dX12_iterate_37 : decode cX12_iterate 37 = .ok (.iconst 0, 1) := by decide +kernel
theorem dX12_iterate_38 : decode cX12_iterate 38 = .ok (.iconst 0, 1) := by decide +kernel
theorem dX12_iterate_39 : decode cX12_iterate 39 = .ok (.iload_n 1, 1) := by decide +kernel
theorem dX12_iterate_40 : decode cX12_iterate 40 = .ok (.lload_n 2, 1) := by decide +kernel
theorem dX12_iterate_41 : decode cX12_iterate 41 = .ok (.lload 4, 2) := by decide +kernel
theorem dX12_iterate_43 : decode cX12_iterate 43 = .ok (.invokevirtual 76, 3) := by decide +kernel
theorem dX12_iterate_46 : decode cX12_iterate 46 = .ok (.ireturn, 1) := by decide +kernel
set_option maxRecDepth 20000 in
theorem ggX12_map_X12_isList : GoodIn wsX12_map wsX12_isList := goodIn_r _ [7, 2, 25, 26, 27, 28, 29, 30, 31, 32, 33, 34, 35, 36, 37, 38, 39, 40, 41, 42, 43, 44, 45, 46, 47, 48, 49, 50, 51, 52, 53, 54, 55, 56] (by decide +kernel) (by decide +kernel)
set_option maxRecDepth 20000 in
theorem gX12_map_X12_isList : GoodIn wsX12_map (wsV RX12 84 RX12 yX12_isList wsX12_isList) := goodIn_app (goodIn_of _ (by decide +kernel)) ggX12_map_X12_isList
set_option maxRecDepth 20000 in
theorem ggX12_map_X12_fail : GoodIn wsX12_map wsX12_fail := goodIn_r _ [11, 1, 25, 26, 27, 28, 29, 30, 31, 32, 33, 34, 35, 36, 37, 38, 39, 40, 41, 42, 43, 44, 45, 46, 47, 48, 49, 50, 51, 52, 53, 54, 55, 56] (by decide +kernel) (by decide +kernel)
set_option maxRecDepth 20000 in
theorem gX12_map_X12_fail : GoodIn wsX12_map (wsV RX12 72 RX12 yX12_fail wsX12_fail) := goodIn_app (goodIn_of _ (by decide +kernel)) ggX12_map_X12_fail
theorem dX12_map_0 : decode cX12_map 0 = .ok (.aload_n 0, 1) := by decide +kernel
theorem dX12_map_1 : decode cX12_map 1 = .ok (.iconst 0, 1) := by decide +kernel
theorem dX12_map_2 : decode cX12_map 2 = .ok (.putfield 63, 3) := by decide +kernel
theorem dX12_map_5 : decode cX12_map 5 = .ok (.aload_n 0, 1) := by decide +kernel
theorem dX12_map_6 : decode cX12_map 6 = .ok (.iload_n 1, 1) := by decide +kernel
theorem dX12_map_7 : decode cX12_map 7 = .ok (.invokevirtual 84, 3) := by decide +kernel
theorem dX12_map_10 : decode cX12_map 10 = .ok (.ifCond .ne 9, 3) := by decide +kernel
theorem dX12_map_13 : decode cX12_map 13 = .ok (.aload_n 0, 1) := by decide +kernel
theorem dX12_map_14 : decode cX12_map 14 = .ok (.iconst 1, 1) := by decide +kernel
theorem dX12_map_15 : decode cX12_map 15 = .ok (.invokevirtual 72, 3) := by decide +kernel
theorem dX12_map_18 : decode cX12_map 18 = .ok (.ireturn, 1) := by decide +kernel
set_option maxRecDepth 20000 in
theorem ggX12_both_X12_isList : GoodIn wsX12_both wsX12_isList := goodIn_r _ [7, 2, 25, 26, 27, 28, 29, 30, 31, 32, 33, 34, 35, 36, 37, 38, 39, 40, 41, 42, 43, 44, 45, 46, 47, 48, 49, 50, 51, 52, 53, 54, 55, 56] (by decide +kernel) (by decide +kernel)
set_option maxRecDepth 20000 in
theorem gX12_both_X12_isList : GoodIn wsX12_both (wsV RX12 84 RX12 yX12_isList wsX12_isList) := goodIn_app (goodIn_of _ (by decide +kernel)) ggX12_both_X12_isList
set_option maxRecDepth 20000 in
theorem ggX12_both_X12_fail : GoodIn wsX12_both wsX12_fail := goodIn_r _ [11, 1, 25, 26, 27, 28, 29, 30, 31, 32, 33, 34, 35, 36, 37, 38, 39, 40, 41, 42, 43, 44, 45, 46, 47, 48, 49, 50, 51, 52, 53, 54, 55, 56] (by decide +kernel) (by decide +kernel)
set_option maxRecDepth 20000 in
theorem gX12_both_X12_fail : GoodIn wsX12_both (wsV RX12 72 RX12 yX12_fail wsX12_fail) := goodIn_app (goodIn_of _ (by decide +kernel)) ggX12_both_X12_fail
theorem dX12_both_0 : decode cX12_both 0 = .ok (.aload_n 0, 1) := by decide +kernel
theorem dX12_both_1 : decode cX12_both 1 = .ok (.iconst 0, 1) := by decide +kernel
theorem dX12_both_2 : decode cX12_both 2 = .ok (.putfield 63, 3) := by decide +kernel
theorem dX12_both_5 : decode cX12_both 5 = .ok (.aload_n 0, 1) := by decide +kernel
theorem dX12_both_6 : decode cX12_both 6 = .ok (.iload_n 1, 1) := by decide +kernel
theorem dX12_both_7 : decode cX12_both 7 = .ok (.invokevirtual 84, 3) := by decide +kernel
theorem dX12_both_10 : decode cX12_both 10 = .ok (.ifCond .eq 11, 3) := by decide +kernel
theorem dX12_both_21 : decode cX12_both 21 = .ok (.aload_n 0, 1) := by decide +kernel
theorem dX12_both_22 : decode cX12_both 22 = .ok (.iconst 1, 1) := by decide +kernel
theorem dX12_both_23 : decode cX12_both 23 = .ok (.invokevirtual 72, 3) := by decide +kernel
theorem dX12_both_26 : decode cX12_both 26 = .ok (.ireturn, 1) := by decide +kernel
set_option maxRecDepth 20000 in
theorem ggX12_scan_X12_isList : GoodIn wsX12_scan wsX12_isList := goodIn_r _ [7, 2, 25, 26, 27, 28, 29, 30, 31, 32, 33, 34, 35, 36, 37, 38, 39, 40, 41, 42, 43, 44, 45, 46, 47, 48, 49, 50, 51, 52, 53, 54, 55, 56] (by decide +kernel) (by decide +kernel)
set_option maxRecDepth 20000 in
theorem gX12_scan_X12_isList : GoodIn wsX12_scan (wsV RX12 84 RX12 yX12_isList wsX12_isList) := goodIn_app (goodIn_of _ (by decide +kernel)) ggX12_scan_X12_isList
set_option maxRecDepth 20000 in
theorem ggX12_scan_X12_fail : GoodIn wsX12_scan wsX12_fail := goodIn_r _ [11, 1, 25, 26, 27, 28, 29, 30, 31, 32, 33, 34, 35, 36, 37, 38, 39, 40, 41, 42, 43, 44, 45, 46, 47, 48, 49, 50, 51, 52, 53, 54, 55, 56] (by decide +kernel) (by decide +kernel)
set_option maxRecDepth 20000 in
theorem gX12_scan_X12_fail : GoodIn wsX12_scan (wsV RX12 72 RX12 yX12_fail wsX12_fail) := goodIn_app (goodIn_of _ (by decide +kernel)) ggX12_scan_X12_fail
theorem dX12_scan_0 : decode cX12_scan 0 = .ok (.aload_n 0, 1) := by decide +kernel
theorem dX12_scan_1 : decode cX12_scan 1 = .ok (.iconst 0, 1) := by decide +kernel
theorem dX12_scan_2 : decode cX12_scan 2 = .ok (.putfield 63, 3) := by decide +kernel
theorem dX12_scan_5 : decode cX12_scan 5 = .ok (.aload_n 0, 1) := by decide +kernel
theorem dX12_scan_6 : decode cX12_scan 6 = .ok (.iload_n 1, 1) := by decide +kernel
theorem dX12_scan_7 : decode cX12_scan 7 = .ok (.invokevirtual 84, 3) := by decide +kernel
theorem dX12_scan_10 : decode cX12_scan 10 = .ok (.ifCond .ne 9, 3) := by decide +kernel
theorem dX12_scan_13 : decode cX12_scan 13 = .ok (.aload_n 0, 1) := by decide +kernel
theorem dX12_scan_14 : decode cX12_scan 14 = .ok (.iconst 1, 1) := by decide +kernel
theorem dX12_scan_15 : decode cX12_scan 15 = .ok (.invokevirtual 72, 3) := by decide +kernel
theorem dX12_scan_18 : decode cX12_scan 18 = .ok (.ireturn, 1) := by decide +kernel
set_option maxRecDepth 20000 in
theorem ggX12_some_X12_isList : GoodIn wsX12_some wsX12_isList := goodIn_r _ [6, 1, 22, 23, 24, 25, 26, 27, 28, 29, 30, 31, 32, 33, 34, 35, 36, 37, 38, 39, 40, 41, 42, 43, 44, 45, 46, 47, 48, 49, 50, 51, 52, 53] (by decide +kernel) (by decide +kernel)
set_option maxRecDepth 20000 in
theorem gX12_some_X12_isList : GoodIn wsX12_some (wsV RX12 84 RX12 yX12_isList wsX12_isList) := goodIn_app (goodIn_of _ (by decide +kernel)) ggX12_some_X12_isList
set_option maxRecDepth 20000 in
theorem ggX12_some_X12_fail : GoodIn wsX12_some wsX12_fail := goodIn_r _ [10, 11, 22, 23, 24, 25, 26, 27, 28, 29, 30, 31, 32, 33, 34, 35, 36, 37, 38, 39, 40, 41, 42, 43, 44, 45, 46, 47, 48, 49, 50, 51, 52, 53] (by decide +kernel) (by decide +kernel)
set_option maxRecDepth 20000 in
theorem gX12_some_X12_fail : GoodIn wsX12_some (wsV RX12 72 RX12 yX12_fail wsX12_fail) := goodIn_app (goodIn_of _ (by decide +kernel)) ggX12_some_X12_fail
theorem dX12_some_0 : decode cX12_some 0 = .ok (.aload_n 0, 1) := by decide +kernel
theorem dX12_some_1 : decode cX12_some 1 = .ok (.iload_n 2, 1) := by decide +kernel
theorem dX12_some_2 : decode cX12_some 2 = .ok (.invokevirtual 84, 3) := by decide +kernel
theorem dX12_some_5 : decode cX12_some 5 = .ok (.ifCond .ne 9, 3) := by decide +kernel
theorem dX12_some_8 : decode cX12_some 8 = .ok (.aload_n 0, 1) := by decide +kernel
theorem dX12_some_9 : decode cX12_some 9 = .ok (.iconst 1, 1) := by decide +kernel
theorem dX12_some_10 : decode cX12_some 10 = .ok (.invokevirtual 72, 3) := by decide +kernel
theorem dX12_some_13 : decode cX12_some 13 = .ok (.ireturn, 1) := by decide +kernel
set_option maxRecDepth 20000 in
theorem ggX12_take_X12_some : GoodIn wsX12_take wsX12_some := goodIn_r _ [6, 7, 8, 9, 10, 5, 11, 12, 13, 14, 15, 1, 16, 17, 18, 19, 20, 21, 22, 23, 24, 25, 26, 27, 28, 29, 30, 31, 32, 33, 34, 35, 36, 37, 38, 39, 40, 41, 42, 43, 44, 45, 46, 47, 48, 49, 50, 51, 52, 53, 54, 55, 56, 57] (by decide +kernel) (by decide +kernel)
set_option maxRecDepth 20000 in
theorem gX12_take_X12_some : GoodIn wsX12_take (wsV RX12 87 RX12 yX12_some wsX12_some) := goodIn_app (goodIn_of _ (by decide +kernel)) ggX12_take_X12_some
theorem dX12_take_0 : decode cX12_take 0 = .ok (.aload_n 0, 1) := by decide +kernel
theorem dX12_take_1 : decode cX12_take 1 = .ok (.iconst 0, 1) := by decide +kernel
theorem dX12_take_2 : decode cX12_take 2 = .ok (.putfield 63, 3) := by decide +kernel
theorem dX12_take_5 : decode cX12_take 5 = .ok (.aload_n 0, 1) := by decide +kernel
theorem dX12_take_6 : decode cX12_take 6 = .ok (.bipush 6, 2) := by decide +kernel
theorem dX12_take_8 : decode cX12_take 8 = .ok (.iload_n 1, 1) := by decide +kernel
theorem dX12_take_9 : decode cX12_take 9 = .ok (.iload_n 2, 1) := by decide +kernel
theorem dX12_take_10 : decode cX12_take 10 = .ok (.invokevirtual 87, 3) := by decide +kernel
theorem dX12_take_13 : decode cX12_take 13 = .ok (.ireturn, 1) := by decide +kernel
set_option maxRecDepth 20000 in
theorem ggX12_drop_X12_some : GoodIn wsX12_drop wsX12_some := goodIn_r _ [6, 7, 8, 9, 10, 5, 11, 12, 13, 14, 15, 1, 16, 17, 18, 19, 20, 21, 22, 23, 24, 25, 26, 27, 28, 29, 30, 31, 32, 33, 34, 35, 36, 37, 38, 39, 40, 41, 42, 43, 44, 45, 46, 47, 48, 49, 50, 51, 52, 53, 54, 55, 56, 57] (by decide +kernel) (by decide +kernel)
set_option maxRecDepth 20000 in
theorem gX12_drop_X12_some : GoodIn wsX12_drop (wsV RX12 87 RX12 yX12_some wsX12_some) := goodIn_app (goodIn_of _ (by decide +kernel)) ggX12_drop_X12_some
theorem dX12_drop_0 : decode cX12_drop 0 = .ok (.aload_n 0, 1) := by decide +kernel
theorem dX12_drop_1 : decode cX12_drop 1 = .ok (.iconst 0, 1) := by decide +kernel
theorem dX12_drop_2 : decode cX12_drop 2 = .ok (.putfield 63, 3) := by decide +kernel
theorem dX12_drop_5 : decode cX12_drop 5 = .ok (.aload_n 0, 1) := by decide +kernel
theorem dX12_drop_6 : decode cX12_drop 6 = .ok (.bipush 7, 2) := by decide +kernel
theorem dX12_drop_8 : decode cX12_drop 8 = .ok (.iload_n 1, 1) := by decide +kernel
theorem dX12_drop_9 : decode cX12_drop 9 = .ok (.iload_n 2, 1) := by decide +kernel
theorem dX12_drop_10 : decode cX12_drop 10 = .ok (.invokevirtual 87, 3) := by decide +kernel
theorem dX12_drop_13 : decode cX12_drop 13 = .ok (.ireturn, 1) := by decide +kernel
set_option maxRecDepth 20000 in
theorem ggX12_by_X12_isList : GoodIn wsX12_by wsX12_isList := goodIn_r _ [6, 1, 25, 26, 27, 28, 29, 30, 31, 32, 33, 34, 35, 36, 37, 38, 39, 40, 41, 42, 43, 44, 45, 46, 47, 48, 49, 50, 51, 52, 53, 54, 55, 56] (by decide +kernel) (by decide +kernel)
set_option maxRecDepth 20000 in
theorem gX12_by_X12_isList : GoodIn wsX12_by (wsV RX12 84 RX12 yX12_isList wsX12_isList) := goodIn_app (goodIn_of _ (by decide +kernel)) ggX12_by_X12_isList
set_option maxRecDepth 20000 in
theorem ggX12_by_X12_fail : GoodIn wsX12_by wsX12_fail := goodIn_r _ [10, 11, 25, 26, 27, 28, 29, 30, 31, 32, 33, 34, 35, 36, 37, 38, 39, 40, 41, 42, 43, 44, 45, 46, 47, 48, 49, 50, 51, 52, 53, 54, 55, 56] (by decide +kernel) (by decide +kernel)
set_option maxRecDepth 20000 in
theorem gX12_by_X12_fail : GoodIn wsX12_by (wsV RX12 72 RX12 yX12_fail wsX12_fail) := goodIn_app (goodIn_of _ (by decide +kernel)) ggX12_by_X12_fail
theorem dX12_by_0 : decode cX12_by 0 = .ok (.aload_n 0, 1) := by decide +kernel
theorem dX12_by_1 : decode cX12_by 1 = .ok (.iload_n 2, 1) := by decide +kernel
theorem dX12_by_2 : decode cX12_by 2 = .ok (.invokevirtual 84, 3) := by decide +kernel
theorem dX12_by_5 : decode cX12_by 5 = .ok (.ifCond .ne 9, 3) := by decide +kernel
theorem dX12_by_8 : decode cX12_by 8 = .ok (.aload_n 0, 1) := by decide +kernel
theorem dX12_by_9 : decode cX12_by 9 = .ok (.iconst 1, 1) := by decide +kernel
theorem dX12_by_10 : decode cX12_by 10 = .ok (.invokevirtual 72, 3) := by decide +kernel
theorem dX12_by_13 : decode cX12_by 13 = .ok (.ireturn, 1) := by decide +kernel
set_option maxRecDepth 20000 in
theorem ggX12_keep_X12_by : GoodIn wsX12_keep wsX12_by := goodIn_r _ [6, 7, 8, 9, 10, 5, 11, 12, 13, 14, 15, 1, 16, 17, 18, 19, 20, 21, 22, 23, 24, 25, 26, 27, 28, 29, 30, 31, 32, 33, 34, 35, 36, 37, 38, 39, 40, 41, 42, 43, 44, 45, 46, 47, 48, 49, 50, 51, 52, 53, 54, 55, 56, 57, 58, 59, 60] (by decide +kernel) (by decide +kernel)
set_option maxRecDepth 20000 in
theorem gX12_keep_X12_by : GoodIn wsX12_keep (wsV RX12 94 RX12 yX12_by wsX12_by) := goodIn_app (goodIn_of _ (by decide +kernel)) ggX12_keep_X12_by
theorem dX12_keep_0 : decode cX12_keep 0 = .ok (.aload_n 0, 1) := by decide +kernel
theorem dX12_keep_1 : decode cX12_keep 1 = .ok (.iconst 0, 1) := by decide +kernel
theorem dX12_keep_2 : decode cX12_keep 2 = .ok (.putfield 63, 3) := by decide +kernel
theorem dX12_keep_5 : decode cX12_keep 5 = .ok (.aload_n 0, 1) := by decide +kernel
theorem dX12_keep_6 : decode cX12_keep 6 = .ok (.bipush 8, 2) := by decide +kernel
theorem dX12_keep_8 : decode cX12_keep 8 = .ok (.iload_n 1, 1) := by decide +kernel
theorem dX12_keep_9 : decode cX12_keep 9 = .ok (.iload_n 2, 1) := by decide +kernel
theorem dX12_keep_10 : decode cX12_keep 10 = .ok (.lload_n 3, 1) := by decide +kernel
theorem dX12_keep_11 : decode cX12_keep 11 = .ok (.invokevirtual 94, 3) := by decide +kernel
theorem dX12_keep_14 : decode cX12_keep 14 = .ok (.ireturn, 1) := by decide +kernel
set_option maxRecDepth 20000 in
theorem ggX12_during_X12_by : GoodIn wsX12_during wsX12_by := goodIn_r _ [6, 7, 8, 9, 10, 5, 11, 12, 13, 14, 15, 1, 16, 17, 18, 19, 20, 21, 22, 23, 24, 25, 26, 27, 28, 29, 30, 31, 32, 33, 34, 35, 36, 37, 38, 39, 40, 41, 42, 43, 44, 45, 46, 47, 48, 49, 50, 51, 52, 53, 54, 55, 56, 57, 58, 59, 60] (by decide +kernel) (by decide +kernel)
set_option maxRecDepth 20000 in
theorem gX12_during_X12_by : GoodIn wsX12_during (wsV RX12 94 RX12 yX12_by wsX12_by) := goodIn_app (goodIn_of _ (by decide +kernel)) ggX12_during_X12_by
theorem dX12_during_0 : decode cX12_during 0 = .ok (.aload_n 0, 1) := by decide +kernel
theorem dX12_during_1 : decode cX12_during 1 = .ok (.iconst 0, 1) := by decide +kernel
theorem dX12_during_2 : decode cX12_during 2 = .ok (.putfield 63, 3) := by decide +kernel
theorem dX12_during_5 : decode cX12_during 5 = .ok (.aload_n 0, 1) := by decide +kernel
theorem dX12_during_6 : decode cX12_during 6 = .ok (.bipush 9, 2) := by decide +kernel
theorem dX12_during_8 : decode cX12_during 8 = .ok (.iload_n 1, 1) := by decide +kernel
theorem dX12_during_9 : decode cX12_during 9 = .ok (.iload_n 2, 1) := by decide +kernel
theorem dX12_during_10 : decode cX12_during 10 = .ok (.lload_n 3, 1) := by decide +kernel
theorem dX12_during_11 : decode cX12_during 11 = .ok (.invokevirtual 94, 3) := by decide +kernel
theorem dX12_during_14 : decode cX12_during 14 = .ok (.ireturn, 1) := by decide +kernel
set_option maxRecDepth 20000 in
theorem ggX12_after_X12_by : GoodIn wsX12_after wsX12_by := goodIn_r _ [6, 7, 8, 9, 10, 5, 11, 12, 13, 14, 15, 1, 16, 17, 18, 19, 20, 21, 22, 23, 24, 25, 26, 27, 28, 29, 30, 31, 32, 33, 34, 35, 36, 37, 38, 39, 40, 41, 42, 43, 44, 45, 46, 47, 48, 49, 50, 51, 52, 53, 54, 55, 56, 57, 58, 59, 60] (by decide +kernel) (by decide +kernel)
set_option maxRecDepth 20000 in
theorem gX12_after_X12_by : GoodIn wsX12_after (wsV RX12 94 RX12 yX12_by wsX12_by) := goodIn_app (goodIn_of _ (by decide +kernel)) ggX12_after_X12_by
theorem dX12_after_0 : decode cX12_after 0 = .ok (.aload_n 0, 1) := by decide +kernel
theorem dX12_after_1 : decode cX12_after 1 = .ok (.iconst 0, 1) := by decide +kernel
theorem dX12_after_2 : decode cX12_after 2 = .ok (.putfield 63, 3) := by decide +kernel
theorem dX12_after_5 : decode cX12_after 5 = .ok (.aload_n 0, 1) := by decide +kernel
theorem dX12_after_6 : decode cX12_after 6 = .ok (.bipush 10, 2) := by decide +kernel
theorem dX12_after_8 : decode cX12_after 8 = .ok (.iload_n 1, 1) := by decide +kernel
theorem dX12_after_9 : decode cX12_after 9 = .ok (.iload_n 2, 1) := by decide +kernel
theorem dX12_after_10 : decode cX12_after 10 = .ok (.lload_n 3, 1) := by decide +kernel
theorem dX12_after_11 : decode cX12_after 11 = .ok (.invokevirtual 94, 3) := by decide +kernel
theorem dX12_after_14 : decode cX12_after 14 = .ok (.ireturn, 1) := by decide +kernel
set_option maxRecDepth 20000 in
theorem ggX12_join_X12_isList : GoodIn wsX12_join wsX12_isList := goodIn_r _ [7, 2, 22, 23, 24, 25, 26, 27, 28, 29, 30, 31, 32, 33, 34, 35, 36, 37, 38, 39, 40, 41, 42, 43, 44, 45, 46, 47, 48, 49, 50, 51, 52, 53] (by decide +kernel) (by decide +kernel)
set_option maxRecDepth 20000 in
theorem gX12_join_X12_isList : GoodIn wsX12_join (wsV RX12 84 RX12 yX12_isList wsX12_isList) := goodIn_app (goodIn_of _ (by decide +kernel)) ggX12_join_X12_isList
set_option maxRecDepth 20000 in
theorem ggX12_join_X12_fail : GoodIn wsX12_join wsX12_fail := goodIn_r _ [11, 1, 22, 23, 24, 25, 26, 27, 28, 29, 30, 31, 32, 33, 34, 35, 36, 37, 38, 39, 40, 41, 42, 43, 44, 45, 46, 47, 48, 49, 50, 51, 52, 53] (by decide +kernel) (by decide +kernel)
set_option maxRecDepth 20000 in
theorem gX12_join_X12_fail : GoodIn wsX12_join (wsV RX12 72 RX12 yX12_fail wsX12_fail) := goodIn_app (goodIn_of _ (by decide +kernel)) ggX12_join_X12_fail
theorem dX12_join_0 : decode cX12_join 0 = .ok (.aload_n 0, 1) := by decide +kernel
theorem dX12_join_1 : decode cX12_join 1 = .ok (.iconst 0, 1) := by decide +kernel
theorem dX12_join_2 : decode cX12_join 2 = .ok (.putfield 63, 3) := by decide +kernel
theorem dX12_join_5 : decode cX12_join 5 = .ok (.aload_n 0, 1) := by decide +kernel
theorem dX12_join_6 : decode cX12_join 6 = .ok (.iload_n 1, 1) := by decide +kernel
theorem dX12_join_7 : decode cX12_join 7 = .ok (.invokevirtual 84, 3) := by decide +kernel
theorem dX12_join_10 : decode cX12_join 10 = .ok (.ifCond .eq 11, 3) := by decide +kernel
theorem dX12_join_21 : decode cX12_join 21 = .ok (.aload_n 0, 1) := by decide +kernel
theorem dX12_join_22 : decode cX12_join 22 = .ok (.iconst 1, 1) := by decide +kernel
theorem dX12_join_23 : decode cX12_join 23 = .ok (.invokevirtual 72, 3) := by decide +kernel
theorem dX12_join_26 : decode cX12_join 26 = .ok (.ireturn, 1) := by decide +kernel
set_option maxRecDepth 20000 in
theorem ggX12_other_X12_isList : GoodIn wsX12_other wsX12_isList := goodIn_r _ [7, 2, 22, 23, 24, 25, 26, 27, 28, 29, 30, 31, 32, 33, 34, 35, 36, 37, 38, 39, 40, 41, 42, 43, 44, 45, 46, 47, 48, 49, 50, 51, 52, 53] (by decide +kernel) (by decide +kernel)
set_option maxRecDepth 20000 in
theorem gX12_other_X12_isList : GoodIn wsX12_other (wsV RX12 84 RX12 yX12_isList wsX12_isList) := goodIn_app (goodIn_of _ (by decide +kernel)) ggX12_other_X12_isList
set_option maxRecDepth 20000 in
theorem ggX12_other_X12_fail : GoodIn wsX12_other wsX12_fail := goodIn_r _ [11, 1, 22, 23, 24, 25, 26, 27, 28, 29, 30, 31, 32, 33, 34, 35, 36, 37, 38, 39, 40, 41, 42, 43, 44, 45, 46, 47, 48, 49, 50, 51, 52, 53] (by decide +kernel) (by decide +kernel)
set_option maxRecDepth 20000 in
theorem gX12_other_X12_fail : GoodIn wsX12_other (wsV RX12 72 RX12 yX12_fail wsX12_fail) := goodIn_app (goodIn_of _ (by decide +kernel)) ggX12_other_X12_fail
theorem dX12_other_0 : decode cX12_other 0 = .ok (.aload_n 0, 1) := by decide +kernel
theorem dX12_other_1 : decode cX12_other 1 = .ok (.iconst 0, 1) := by decide +kernel
theorem dX12_other_2 : decode cX12_other 2 = .ok (.putfield 63, 3) := by decide +kernel
theorem dX12_other_5 : decode cX12_other 5 = .ok (.aload_n 0, 1) := by decide +kernel
theorem dX12_other_6 : decode cX12_other 6 = .ok (.iload_n 1, 1) := by decide +kernel
theorem dX12_other_7 : decode cX12_other 7 = .ok (.invokevirtual 84, 3) := by decide +kernel
theorem dX12_other_10 : decode cX12_other 10 = .ok (.ifCond .ne 9, 3) := by decide +kernel
theorem dX12_other_13 : decode cX12_other 13 = .ok (.aload_n 0, 1) := by decide +kernel
theorem dX12_other_14 : decode cX12_other 14 = .ok (.iconst 1, 1) := by decide +kernel
theorem dX12_other_15 : decode cX12_other 15 = .ok (.invokevirtual 72, 3) := by decide +kernel
theorem dX12_other_18 : decode cX12_other 18 = .ok (.ireturn, 1) := by decide +kernel
set_option maxRecDepth 20000 in
theorem ggX12_steps_X12_fail : GoodIn wsX12_steps wsX12_fail := goodIn_r _ [7, 1, 8, 9, 10, 11, 12, 13, 14, 15, 16, 17, 18, 19, 20, 21, 22, 23, 24, 25, 26, 27, 28, 29, 30, 31, 32, 33, 34, 35, 36, 37, 38, 39] (by decide +kernel) (by decide +kernel)
set_option maxRecDepth 20000 in
theorem gX12_steps_X12_fail : GoodIn wsX12_steps (wsV RX12 72 RX12 yX12_fail wsX12_fail) := goodIn_app (goodIn_of _ (by decide +kernel)) ggX12_steps_X12_fail
theorem dX12_steps_0 : decode cX12_steps 0 = .ok (.aload_n 0, 1) := by decide +kernel
theorem dX12_steps_1 : decode cX12_steps 1 = .ok (.iconst 0, 1) := by decide +kernel
theorem dX12_steps_2 : decode cX12_steps 2 = .ok (.putfield 63, 3) := by decide +kernel
theorem dX12_steps_5 : decode cX12_steps 5 = .ok (.iload_n 1, 1) := by decide +kernel
theorem dX12_steps_6 : decode cX12_steps 6 = .ok (.iconst 1, 1) := by decide +kernel
theorem dX12_steps_7 : decode cX12_steps 7 = .ok (.if_icmp .lt 10, 3) := by decide +kernel
theorem dX12_steps_10 : decode cX12_steps 10 = .ok (.iload_n 1, 1) := by decide +kernel
theorem dX12_steps_11 : decode cX12_steps 11 = .ok (.sipush 5000, 3) := by decide +kernel
theorem dX12_steps_14 : decode cX12_steps 14 = .ok (.if_icmp .le 9, 3) := by decide +kernel
theorem dX12_steps_17 : decode cX12_steps 17 = .ok (.aload_n 0, 1) := by decide +kernel
theorem dX12_steps_18 : decode cX12_steps 18 = .ok (.iconst 1, 1) := by decide +kernel
theorem dX12_steps_19 : decode cX12_steps 19 = .ok (.invokevirtual 72, 3) := by decide +kernel
theorem dX12_steps_22 : decode cX12_steps 22 = .ok (.ireturn, 1) := by decide +kernel
theorem dX12_steps_23 : decode cX12_steps 23 = .ok (.aload_n 0, 1) := by decide +kernel
theorem dX12_steps_24 : decode cX12_steps 24 = .ok (.getfield 50, 3) := by decide +kernel
theorem dX12_steps_27 : decode cX12_steps 27 = .ok (.istore_n 2, 1) := by decide +kernel
theorem dX12_steps_28 : decode cX12_steps 28 = .ok (.aload_n 0, 1) := by decide +kernel
theorem dX12_steps_29 : decode cX12_steps 29 = .ok (.iload_n 1, 1) := by decide +kernel
theorem dX12_steps_30 : decode cX12_steps 30 = .ok (.putfield 50, 3) := by decide +kernel
theorem dX12_steps_33 : decode cX12_steps 33 = .ok (.iload_n 2, 1) := by decide +kernel
theorem dX12_steps_34 : decode cX12_steps 34 = .ok (.ireturn, 1) := by decide +kernel
set_option maxRecDepth 20000 in
theorem ggX12_at_X12_isList : GoodIn wsX12_at wsX12_isList := goodIn_r _ [6, 7, 152, 153, 154, 155, 156, 157, 158, 159, 160, 161, 162, 163, 164, 165, 166, 167, 168, 169, 170, 171, 172, 173, 174, 175, 176, 177, 178, 179, 180, 181, 182, 183] (by decide +kernel) (by decide +kernel)
set_option maxRecDepth 20000 in
theorem gX12_at_X12_isList : GoodIn wsX12_at (wsV RX12 84 RX12 yX12_isList wsX12_isList) := goodIn_app (goodIn_of _ (by decide +kernel)) ggX12_at_X12_isList
set_option maxRecDepth 20000 in
theorem ggX12_at_X12_fail : GoodIn wsX12_at wsX12_fail := goodIn_r _ [11, 1, 152, 153, 154, 155, 156, 157, 158, 159, 160, 161, 162, 163, 164, 165, 166, 167, 168, 169, 170, 171, 172, 173, 174, 175, 176, 177, 178, 179, 180, 181, 182, 183] (by decide +kernel) (by decide +kernel)
set_option maxRecDepth 20000 in
theorem gX12_at_X12_fail : GoodIn wsX12_at (wsV RX12 72 RX12 yX12_fail wsX12_fail) := goodIn_app (goodIn_of _ (by decide +kernel)) ggX12_at_X12_fail
theorem dX12_at_0 : decode cX12_at 0 = .ok (.aload_n 0, 1) := by decide +kernel
theorem dX12_at_1 : decode cX12_at 1 = .ok (.iconst 0, 1) := by decide +kernel
theorem dX12_at_2 : decode cX12_at 2 = .ok (.putfield 63, 3) := by decide +kernel
theorem dX12_at_5 : decode cX12_at 5 = .ok (.aload_n 0, 1) := by decide +kernel
theorem dX12_at_6 : decode cX12_at 6 = .ok (.iload_n 1, 1) := by decide +kernel
theorem dX12_at_7 : decode cX12_at 7 = .ok (.invokevirtual 84, 3) := by decide +kernel
theorem dX12_at_10 : decode cX12_at 10 = .ok (.ifCond .ne 10, 3) := by decide +kernel
theorem dX12_at_13 : decode cX12_at 13 = .ok (.aload_n 0, 1) := by decide +kernel
theorem dX12_at_14 : decode cX12_at 14 = .ok (.iconst 1, 1) := by decide +kernel
theorem dX12_at_15 : decode cX12_at 15 = .ok (.invokevirtual 72, 3) := by decide +kernel
theorem dX12_at_18 : decode cX12_at 18 = .ok (.i2l, 1) := by decide +kernel
theorem dX12_at_19 : decode cX12_at 19 = .ok (.lreturn, 1) := by decide +kernel
set_option maxRecDepth 20000 in
theorem ggX12_size_X12_isList : GoodIn wsX12_size wsX12_isList := goodIn_r _ [6, 7, 148, 149, 150, 151, 152, 153, 154, 155, 156, 157, 158, 159, 160, 161, 162, 163, 164, 165, 166, 167, 168, 169, 170, 171, 172, 173, 174, 175, 176, 177, 178, 179] (by decide +kernel) (by decide +kernel)
set_option maxRecDepth 20000 in
theorem gX12_size_X12_isList : GoodIn wsX12_size (wsV RX12 84 RX12 yX12_isList wsX12_isList) := goodIn_app (goodIn_of _ (by decide +kernel)) ggX12_size_X12_isList
set_option maxRecDepth 20000 in
theorem ggX12_size_X12_fail : GoodIn wsX12_size wsX12_fail := goodIn_r _ [11, 1, 148, 149, 150, 151, 152, 153, 154, 155, 156, 157, 158, 159, 160, 161, 162, 163, 164, 165, 166, 167, 168, 169, 170, 171, 172, 173, 174, 175, 176, 177, 178, 179] (by decide +kernel) (by decide +kernel)
set_option maxRecDepth 20000 in
theorem gX12_size_X12_fail : GoodIn wsX12_size (wsV RX12 72 RX12 yX12_fail wsX12_fail) := goodIn_app (goodIn_of _ (by decide +kernel)) ggX12_size_X12_fail
theorem dX12_size_0 : decode cX12_size 0 = .ok (.aload_n 0, 1) := by decide +kernel
theorem dX12_size_1 : decode cX12_size 1 = .ok (.iconst 0, 1) := by decide +kernel
theorem dX12_size_2 : decode cX12_size 2 = .ok (.putfield 63, 3) := by decide +kernel
theorem dX12_size_5 : decode cX12_size 5 = .ok (.aload_n 0, 1) := by decide +kernel
theorem dX12_size_6 : decode cX12_size 6 = .ok (.iload_n 1, 1) := by decide +kernel
theorem dX12_size_7 : decode cX12_size 7 = .ok (.invokevirtual 84, 3) := by decide +kernel
theorem dX12_size_10 : decode cX12_size 10 = .ok (.ifCond .ne 10, 3) := by decide +kernel
theorem dX12_size_13 : decode cX12_size 13 = .ok (.aload_n 0, 1) := by decide +kernel
theorem dX12_size_14 : decode cX12_size 14 = .ok (.iconst 1, 1) := by decide +kernel
theorem dX12_size_15 : decode cX12_size 15 = .ok (.invokevirtual 72, 3) := by decide +kernel
theorem dX12_size_18 : decode cX12_size 18 = .ok (.i2l, 1) := by decide +kernel
theorem dX12_size_19 : decode cX12_size 19 = .ok (.lreturn, 1) := by decide +kernel
set_option maxRecDepth 20000 in
theorem ggX12_fold_X12_isList : GoodIn wsX12_fold wsX12_isList := goodIn_r _ [8, 9, 155, 156, 157, 158, 159, 160, 161, 162, 163, 164, 165, 166, 167, 168, 169, 170, 171, 172, 173, 174, 175, 176, 177, 178, 179, 180, 181, 182, 183, 184, 185, 186] (by decide +kernel) (by decide +kernel)
set_option maxRecDepth 20000 in
theorem gX12_fold_X12_isList : GoodIn wsX12_fold (wsV RX12 84 RX12 yX12_isList wsX12_isList) := goodIn_app (goodIn_of _ (by decide +kernel)) ggX12_fold_X12_isList
set_option maxRecDepth 20000 in
theorem ggX12_fold_X12_fail : GoodIn wsX12_fold wsX12_fail := goodIn_r _ [13, 1, 155, 156, 157, 158, 159, 160, 161, 162, 163, 164, 165, 166, 167, 168, 169, 170, 171, 172, 173, 174, 175, 176, 177, 178, 179, 180, 181, 182, 183, 184, 185, 186] (by decide +kernel) (by decide +kernel)
set_option maxRecDepth 20000 in
theorem gX12_fold_X12_fail : GoodIn wsX12_fold (wsV RX12 72 RX12 yX12_fail wsX12_fail) := goodIn_app (goodIn_of _ (by decide +kernel)) ggX12_fold_X12_fail
theorem dX12_fold_0 : decode cX12_fold 0 = .ok (.aload_n 0, 1) := by decide +kernel
theorem dX12_fold_1 : decode cX12_fold 1 = .ok (.iconst 0, 1) := by decide +kernel
theorem dX12_fold_2 : decode cX12_fold 2 = .ok (.putfield 63, 3) := by decide +kernel
theorem dX12_fold_5 : decode cX12_fold 5 = .ok (.aload_n 0, 1) := by decide +kernel
theorem dX12_fold_6 : decode cX12_fold 6 = .ok (.iload_n 1, 1) := by decide +kernel
theorem dX12_fold_7 : decode cX12_fold 7 = .ok (.invokevirtual 84, 3) := by decide +kernel
theorem dX12_fold_10 : decode cX12_fold 10 = .ok (.ifCond .ne 10, 3) := by decide +kernel
theorem dX12_fold_13 : decode cX12_fold 13 = .ok (.aload_n 0, 1) := by decide +kernel
theorem dX12_fold_14 : decode cX12_fold 14 = .ok (.iconst 1, 1) := by decide +kernel
theorem dX12_fold_15 : decode cX12_fold 15 = .ok (.invokevirtual 72, 3) := by decide +kernel
theorem dX12_fold_18 : decode cX12_fold 18 = .ok (.i2l, 1) := by decide +kernel
theorem dX12_fold_19 : decode cX12_fold 19 = .ok (.lreturn, 1) := by decide +kernel
set_option maxRecDepth 20000 in
theorem ggX12_find_X12_isList : GoodIn wsX12_find wsX12_isList := goodIn_r _ [8, 9, 156, 157, 158, 159, 160, 161, 162, 163, 164, 165, 166, 167, 168, 169, 170, 171, 172, 173, 174, 175, 176, 177, 178, 179, 180, 181, 182, 183, 184, 185, 186, 187] (by decide +kernel) (by decide +kernel)
set_option maxRecDepth 20000 in
theorem gX12_find_X12_isList : GoodIn wsX12_find (wsV RX12 84 RX12 yX12_isList wsX12_isList) := goodIn_app (goodIn_of _ (by decide +kernel)) ggX12_find_X12_isList
set_option maxRecDepth 20000 in
theorem ggX12_find_X12_fail : GoodIn wsX12_find wsX12_fail := goodIn_r _ [13, 1, 156, 157, 158, 159, 160, 161, 162, 163, 164, 165, 166, 167, 168, 169, 170, 171, 172, 173, 174, 175, 176, 177, 178, 179, 180, 181, 182, 183, 184, 185, 186, 187] (by decide +kernel) (by decide +kernel)
set_option maxRecDepth 20000 in
theorem gX12_find_X12_fail : GoodIn wsX12_find (wsV RX12 72 RX12 yX12_fail wsX12_fail) := goodIn_app (goodIn_of _ (by decide +kernel)) ggX12_find_X12_fail
theorem dX12_find_0 : decode cX12_find 0 = .ok (.aload_n 0, 1) := by decide +kernel
theorem dX12_find_1 : decode cX12_find 1 = .ok (.iconst 0, 1) := by decide +kernel
theorem dX12_find_2 : decode cX12_find 2 = .ok (.putfield 63, 3) := by decide +kernel
theorem dX12_find_5 : decode cX12_find 5 = .ok (.aload_n 0, 1) := by decide +kernel
theorem dX12_find_6 : decode cX12_find 6 = .ok (.iload_n 1, 1) := by decide +kernel
theorem dX12_find_7 : decode cX12_find 7 = .ok (.invokevirtual 84, 3) := by decide +kernel
theorem dX12_find_10 : decode cX12_find 10 = .ok (.ifCond .ne 10, 3) := by decide +kernel
theorem dX12_find_13 : decode cX12_find 13 = .ok (.aload_n 0, 1) := by decide +kernel
theorem dX12_find_14 : decode cX12_find 14 = .ok (.iconst 1, 1) := by decide +kernel
theorem dX12_find_15 : decode cX12_find 15 = .ok (.invokevirtual 72, 3) := by decide +kernel
theorem dX12_find_18 : decode cX12_find 18 = .ok (.i2l, 1) := by decide +kernel
theorem dX12_find_19 : decode cX12_find 19 = .ok (.lreturn, 1) := by decide +kernel
set_option maxRecDepth 20000 in
theorem ggX12_last_X12_isList : GoodIn wsX12_last wsX12_isList := goodIn_r _ [6, 7, 152, 153, 154, 155, 156, 157, 158, 159, 160, 161, 162, 163, 164, 165, 166, 167, 168, 169, 170, 171, 172, 173, 174, 175, 176, 177, 178, 179, 180, 181, 182, 183] (by decide +kernel) (by decide +kernel)
set_option maxRecDepth 20000 in
theorem gX12_last_X12_isList : GoodIn wsX12_last (wsV RX12 84 RX12 yX12_isList wsX12_isList) := goodIn_app (goodIn_of _ (by decide +kernel)) ggX12_last_X12_isList
set_option maxRecDepth 20000 in
theorem ggX12_last_X12_fail : GoodIn wsX12_last wsX12_fail := goodIn_r _ [11, 1, 152, 153, 154, 155, 156, 157, 158, 159, 160, 161, 162, 163, 164, 165, 166, 167, 168, 169, 170, 171, 172, 173, 174, 175, 176, 177, 178, 179, 180, 181, 182, 183] (by decide +kernel) (by decide +kernel)
set_option maxRecDepth 20000 in
theorem gX12_last_X12_fail : GoodIn wsX12_last (wsV RX12 72 RX12 yX12_fail wsX12_fail) := goodIn_app (goodIn_of _ (by decide +kernel)) ggX12_last_X12_fail
theorem dX12_last_0 : decode cX12_last 0 = .ok (.aload_n 0, 1) := by decide +kernel
theorem dX12_last_1 : decode cX12_last 1 = .ok (.iconst 0, 1) := by decide +kernel
theorem dX12_last_2 : decode cX12_last 2 = .ok (.putfield 63, 3) := by decide +kernel
theorem dX12_last_5 : decode cX12_last 5 = .ok (.aload_n 0, 1) := by decide +kernel
theorem dX12_last_6 : decode cX12_last 6 = .ok (.iload_n 1, 1) := by decide +kernel
theorem dX12_last_7 : decode cX12_last 7 = .ok (.invokevirtual 84, 3) := by decide +kernel
theorem dX12_last_10 : decode cX12_last 10 = .ok (.ifCond .ne 10, 3) := by decide +kernel
theorem dX12_last_13 : decode cX12_last 13 = .ok (.aload_n 0, 1) := by decide +kernel
theorem dX12_last_14 : decode cX12_last 14 = .ok (.iconst 1, 1) := by decide +kernel
theorem dX12_last_15 : decode cX12_last 15 = .ok (.invokevirtual 72, 3) := by decide +kernel
theorem dX12_last_18 : decode cX12_last 18 = .ok (.i2l, 1) := by decide +kernel
theorem dX12_last_19 : decode cX12_last 19 = .ok (.lreturn, 1) := by decide +kernel
theorem dX12_outcome_0 : decode cX12_outcome 0 = .ok (.aload_n 0, 1) := by decide +kernel
theorem dX12_outcome_1 : decode cX12_outcome 1 = .ok (.iconst 0, 1) := by decide +kernel
theorem dX12_outcome_2 : decode cX12_outcome 2 = .ok (.putfield 63, 3) := by decide +kernel
theorem dX12_outcome_5 : decode cX12_outcome 5 = .ok (.aload_n 0, 1) := by decide +kernel
theorem dX12_outcome_6 : decode cX12_outcome 6 = .ok (.getfield 203, 3) := by decide +kernel
theorem dX12_outcome_9 : decode cX12_outcome 9 = .ok (.ireturn, 1) := by decide +kernel
theorem dX12_error_0 : decode cX12_error 0 = .ok (.aload_n 0, 1) := by decide +kernel
theorem dX12_error_1 : decode cX12_error 1 = .ok (.iconst 0, 1) := by decide +kernel
theorem dX12_error_2 : decode cX12_error 2 = .ok (.putfield 63, 3) := by decide +kernel
theorem dX12_error_5 : decode cX12_error 5 = .ok (.aload_n 0, 1) := by decide +kernel
theorem dX12_error_6 : decode cX12_error 6 = .ok (.getfield 206, 3) := by decide +kernel
theorem dX12_error_9 : decode cX12_error 9 = .ok (.ireturn, 1) := by decide +kernel
theorem dX12_spent_0 : decode cX12_spent 0 = .ok (.aload_n 0, 1) := by decide +kernel
theorem dX12_spent_1 : decode cX12_spent 1 = .ok (.iconst 0, 1) := by decide +kernel
theorem dX12_spent_2 : decode cX12_spent 2 = .ok (.putfield 63, 3) := by decide +kernel
theorem dX12_spent_5 : decode cX12_spent 5 = .ok (.aload_n 0, 1) := by decide +kernel
theorem dX12_spent_6 : decode cX12_spent 6 = .ok (.getfield 200, 3) := by decide +kernel
theorem dX12_spent_9 : decode cX12_spent 9 = .ok (.ireturn, 1) := by decide +kernel
set_option maxRecDepth 20000 in
theorem ggX12_reached_X12_isList : GoodIn wsX12_reached wsX12_isList := goodIn_r _ [7, 8, 16, 17, 18, 19, 20, 21, 22, 23, 24, 25, 26, 27, 28, 29, 30, 31, 32, 33, 34, 35, 36, 37, 38, 39, 40, 41, 42, 43, 44, 45, 46, 47] (by decide +kernel) (by decide +kernel)
set_option maxRecDepth 20000 in
theorem gX12_reached_X12_isList : GoodIn wsX12_reached (wsV RX12 84 RX12 yX12_isList wsX12_isList) := goodIn_app (goodIn_of _ (by decide +kernel)) ggX12_reached_X12_isList
set_option maxRecDepth 20000 in
theorem ggX12_reached_X12_fail : GoodIn wsX12_reached wsX12_fail := goodIn_r _ [12, 1, 16, 17, 18, 19, 20, 21, 22, 23, 24, 25, 26, 27, 28, 29, 30, 31, 32, 33, 34, 35, 36, 37, 38, 39, 40, 41, 42, 43, 44, 45, 46, 47] (by decide +kernel) (by decide +kernel)
set_option maxRecDepth 20000 in
theorem gX12_reached_X12_fail : GoodIn wsX12_reached (wsV RX12 72 RX12 yX12_fail wsX12_fail) := goodIn_app (goodIn_of _ (by decide +kernel)) ggX12_reached_X12_fail
theorem dX12_reached_0 : decode cX12_reached 0 = .ok (.aload_n 0, 1) := by decide +kernel
theorem dX12_reached_1 : decode cX12_reached 1 = .ok (.iconst 0, 1) := by decide +kernel
theorem dX12_reached_2 : decode cX12_reached 2 = .ok (.putfield 63, 3) := by decide +kernel
theorem dX12_reached_5 : decode cX12_reached 5 = .ok (.aload_n 0, 1) := by decide +kernel
theorem dX12_reached_6 : decode cX12_reached 6 = .ok (.iload_n 1, 1) := by decide +kernel
theorem dX12_reached_7 : decode cX12_reached 7 = .ok (.invokevirtual 84, 3) := by decide +kernel
theorem dX12_reached_10 : decode cX12_reached 10 = .ok (.ifCond .ne 9, 3) := by decide +kernel
theorem dX12_reached_13 : decode cX12_reached 13 = .ok (.aload_n 0, 1) := by decide +kernel
theorem dX12_reached_14 : decode cX12_reached 14 = .ok (.iconst 1, 1) := by decide +kernel
theorem dX12_reached_15 : decode cX12_reached 15 = .ok (.invokevirtual 72, 3) := by decide +kernel
theorem dX12_reached_18 : decode cX12_reached 18 = .ok (.ireturn, 1) := by decide +kernel
set_option maxRecDepth 20000 in
theorem ggX12_worked_X12_isList : GoodIn wsX12_worked wsX12_isList := goodIn_r _ [8, 9, 23, 24, 25, 26, 27, 28, 29, 30, 31, 32, 33, 34, 35, 36, 37, 38, 39, 40, 41, 42, 43, 44, 45, 46, 47, 48, 49, 50, 51, 52, 53, 54] (by decide +kernel) (by decide +kernel)
set_option maxRecDepth 20000 in
theorem gX12_worked_X12_isList : GoodIn wsX12_worked (wsV RX12 84 RX12 yX12_isList wsX12_isList) := goodIn_app (goodIn_of _ (by decide +kernel)) ggX12_worked_X12_isList
set_option maxRecDepth 20000 in
theorem ggX12_worked_X12_fail : GoodIn wsX12_worked wsX12_fail := goodIn_r _ [13, 1, 23, 24, 25, 26, 27, 28, 29, 30, 31, 32, 33, 34, 35, 36, 37, 38, 39, 40, 41, 42, 43, 44, 45, 46, 47, 48, 49, 50, 51, 52, 53, 54] (by decide +kernel) (by decide +kernel)
set_option maxRecDepth 20000 in
theorem gX12_worked_X12_fail : GoodIn wsX12_worked (wsV RX12 72 RX12 yX12_fail wsX12_fail) := goodIn_app (goodIn_of _ (by decide +kernel)) ggX12_worked_X12_fail
theorem dX12_worked_0 : decode cX12_worked 0 = .ok (.aload_n 0, 1) := by decide +kernel
theorem dX12_worked_1 : decode cX12_worked 1 = .ok (.iconst 0, 1) := by decide +kernel
theorem dX12_worked_2 : decode cX12_worked 2 = .ok (.putfield 63, 3) := by decide +kernel
theorem dX12_worked_5 : decode cX12_worked 5 = .ok (.aload_n 0, 1) := by decide +kernel
theorem dX12_worked_6 : decode cX12_worked 6 = .ok (.iload_n 1, 1) := by decide +kernel
theorem dX12_worked_7 : decode cX12_worked 7 = .ok (.invokevirtual 84, 3) := by decide +kernel
theorem dX12_worked_10 : decode cX12_worked 10 = .ok (.ifCond .ne 17, 3) := by decide +kernel
theorem dX12_worked_13 : decode cX12_worked 13 = .ok (.aload_n 0, 1) := by decide +kernel
theorem dX12_worked_14 : decode cX12_worked 14 = .ok (.iconst 1, 1) := by decide +kernel
theorem dX12_worked_15 : decode cX12_worked 15 = .ok (.invokevirtual 72, 3) := by decide +kernel
theorem dX12_worked_18 : decode cX12_worked 18 = .ok (.ifCond .le 7, 3) := by decide +kernel
theorem dX12_worked_25 : decode cX12_worked 25 = .ok (.iconst 0, 1) := by decide +kernel
theorem dX12_worked_26 : decode cX12_worked 26 = .ok (.ireturn, 1) := by decide +kernel
theorem dX12_lists_0 : decode cX12_lists 0 = .ok (.aload_n 0, 1) := by decide +kernel
theorem dX12_lists_1 : decode cX12_lists 1 = .ok (.iconst 0, 1) := by decide +kernel
theorem dX12_lists_2 : decode cX12_lists 2 = .ok (.putfield 63, 3) := by decide +kernel
theorem dX12_lists_5 : decode cX12_lists 5 = .ok (.aload_n 0, 1) := by decide +kernel
theorem dX12_lists_6 : decode cX12_lists 6 = .ok (.getfield 66, 3) := by decide +kernel
theorem dX12_lists_9 : decode cX12_lists 9 = .ok (.ireturn, 1) := by decide +kernel
abbrev vwCl : List vw_C := [(RX0, TX0, 9), (RX1, TX1, 9), (RX2, TX2, 9), (RX3, TX3, 7), (RX4, TX4, 7), (RX6, TX6, 2), (RX7, TX7, 7), (RX8, TX8, 9), (RX9, TX9, 8), (RX10, TX10, 9), (RX11, TX11, 9), (RX12, TX12, 32)]
end
section
/-- NeededLists' fields -/
abbrev xF (hm h1 h2 h3 : Nat) (mc rl st : Int32) : List Value := [.ref hm, .ref h1, .ref h2, .ref h3, .int mc, .int rl, .int st, .int 0, .int 0]
/-- the reference's fields -/
abbrev mF (a : Nat → Nat) (l m p t : Int32) : List Value := [.int l, .ref (a 1), .ref (a 2), .ref (a 3), .ref (a 4), .ref (a 5), .ref (a 6), .ref (a 7), .ref (a 8), .ref (a 9), .ref (a 10), .ref (a 11), .int m, .ref (a 13), .ref (a 14), .int p, .int 0, .int 0, .int 0, .int t, .ref (a 20), .ref (a 21), .long 0, .int 0, .int 0, .long 0, .int 0, .int 0, .int 0, .int 0, .long 0, .ref (a 31)]
def bOp (op : Int32) : Int32 := if op < 0 then 0 else if 8 < op then 0 else 1
def kOp (op : Int32) : Int32 := if op < 0 then 1 else if op ≤ 8 then 0 else 1
def kHole (k : Int32) : Int32 := if k = 0 then 0 else if k = 1 then 0 else 1
def kSteps (n : Int32) : Int32 := if n < 1 then 1 else if n ≤ 5000 then 0 else 1
theorem kOp_ok {op : Int32} (h : ¬ bOp op = 0) : kOp op = 0 := by
  unfold bOp at h; unfold kOp
  by_cases h1 : op < 0
  · rw [if_pos h1] at h; exact absurd rfl h
  · rw [if_neg h1] at h ⊢
    by_cases h2 : 8 < op
    · rw [if_pos h2] at h; exact absurd rfl h
    · rw [if_pos (Int32.not_lt.mp h2)]
theorem kOp_no {op : Int32} (h : bOp op = 0) : kOp op = 1 := by
  unfold bOp at h; unfold kOp
  by_cases h1 : op < 0
  · rw [if_pos h1]
  · rw [if_neg h1] at h ⊢
    by_cases h2 : 8 < op
    · rw [if_neg (fun h3 => Int32.not_lt.mpr h3 h2)]
    · rw [if_neg h2] at h; exact absurd h (by decide)
theorem nd_0 {A : Nat → Prop} : va_D A ([] : va_W) := ⟨fun i j p q h => by simp at h, fun k q h => by simp at h⟩
theorem nd_P0 {D : va_G} {cl : List vw_C} {H : Heap} : va_P D cl [] H := fun k q h => by simp at h
theorem nd_keep {D : va_G} {cl : List vw_C} {ws : va_W} {H H1 : Heap} (hP : va_P D cl ws H) (hk : ∀ q : Nat, q < H.size → ¬ va_A [] H.size q → H1[q]? = H[q]?) : va_P D cl ws H1 :=
  hP.kept (fun k q h => hk q.1 (hP k q h).lt (fun hA => by
    rcases hA with ⟨k2, e, h2⟩ | h2
    · simp at h2
    · exact absurd ((hP k q h).lt) (Nat.not_lt.mpr h2)))
theorem nd_drop {A0 : Nat → Prop} {D : va_G} {cl : List vw_C} {ws wc wr : va_W} {H H1 : Heap} (hP : va_P D cl ws H) (hD : va_D A0 ws) (isC isR : List Nat) (hC : isC.map (fun i => ws[i]?) = wc.map some) (hR : isR.map (fun i => ws[i]?) = wr.map some) (hn : va_nd isR = true) (hdis : ∀ i ∈ isR, i ∉ isC)
    (hk : ∀ q : Nat, q < H.size → ¬ va_A wc H.size q → H1[q]? = H[q]?) (hF : ∀ q, va_A wc H.size q → A0 q) : va_P D cl wr H1 ∧ va_D A0 wr := by
  have h := va_join (w1 := []) hP hD isC isR hC hR hn hdis hk hF nd_P0 nd_0
  rw [List.append_nil] at h
  exact h
theorem nd_in {i : Int32} {n : Nat} (h : ¬ (i < 0 ∨ n ≤ i.toNatClampNeg)) : vp_in i n := h
end
section
set_option maxHeartbeats 4000000 in
set_option maxRecDepth 100000 in
theorem c_X12_thrown (l : Launch) (dC : Nat → ClassId) (dI : Nat → Nat → Nat) (a : Nat → Nat) (g0 : Nat) (li : Int32) (ma : Int32) (pu : Int32) (th : Int32) (sz : Nat) : Met l yX12_thrown wsX12_thrown ({ frames := 10, cells := 0, slots := 0, locals := 300 }) (va_Pc [.ref g0] (fun U => U.heap.size = sz ∧ va_P (dC, dI) vwCl [(g0, .inr (11, mF a li ma pu th))] U.heap ∧ va_K (dC, dI) vwCl [] U ∧ va_D (fun _ => True) [])) (va_Qi (fun (r : Int32) (_ : Unit) => r = th) (fun _ _ => True) (va_A [] sz)) 0 0 (va_A [] sz) := by
  refine Met.ofW (cc := cX12_thrown) (maxL := 1) (ret := (some .int)) (by decide) rfl ?_
  intro p e s m args below meth c s₁ B hml hv
  obtain ⟨rfl, hsz, hP, hK, hD0⟩ := hv
  have hx := B.exec
  have hb := B.bytes
  have hr := B.returns
  have hts := atoms_spec (ws := wsX12_thrown) B.pre
  have hown : s.vm.findClass RX12 = some m.cls := findClass_of_methodNamed B.named
  have hlocks := B.notSynchronized
  subst hsz
  have hD := hD0.self (sz := s.heap.size)
  generalize hAe : va_A [] s.heap.size = A at hD ⊢
  have hA : ∀ q : Nat, s.heap.size ≤ q → A q := fun q h => by rw [← hAe]; exact Or.inr h
  generalize hH : s.heap = H at hP ⊢
  have hS : va_S A s.heap H [] := by rw [← hH]; exact va_S.rf
  have hl := lv_entry [.ref g0] (n := 1) (Nat.le_of_ble_eq_true rfl)
  rw [lg_entry_eq]
  generalize (lg_sl [.ref g0] ++ List.replicate (1 - (lg_sl [.ref g0]).length) Slot.unset).toArray = ls at hl ⊢
  have hl : lv_has ls 1 [(0, .ref g0)] := hl
  have hP : va_P (dC, dI) vwCl [(g0, .inr (11, mF a li ma pu th))] H := hP
  refine lv_aload_n hx hb dX12_thrown_0 rfl (lv_at hl 0 rfl) ?_
  refine va_get (D := (dC, dI)) (ci := 11) (v := .int th) (C := RX12) (T := TX12) (N := 32) hx hb hts (by decide +kernel) hown hK hP 0 rfl rfl 19 (by decide) (hts (.fieldLink RX12 63 "NeededListsModel" "thrown" "I") (by decide +kernel)) (fun _ h9 => h9) rfl dX12_thrown_1 ?_
  refine W.widen (k := 0) (n := 0) (Nat.le_of_ble_eq_true rfl) (Nat.le_of_ble_eq_true rfl) ?_
  exact W.iret (v := th) hx hb hr (fun t ht hW => ⟨⟨th, (), rfl, rfl, trivial⟩, hS.F ht⟩) hS.2.2 dX12_thrown_4
set_option maxHeartbeats 4000000 in
set_option maxRecDepth 100000 in
theorem c_X12_fail (l : Launch) (dC : Nat → ClassId) (dI : Nat → Nat → Nat) (a : Nat → Nat) (g0 : Nat) (li : Int32) (ma : Int32) (pu : Int32) (th : Int32) (p0 : Int32) (sz : Nat) : Met l yX12_fail wsX12_fail ({ frames := 10, cells := 0, slots := 0, locals := 300 }) (va_Pc [.ref g0, .int p0] (fun U => U.heap.size = sz ∧ va_P (dC, dI) vwCl [(g0, .inr (11, mF a li ma pu th))] U.heap ∧ va_K (dC, dI) vwCl [] U ∧ va_D (fun _ => True) [(g0, .inr (11, mF a li ma pu th))])) (va_Qi (fun (r : Int32) (_ : Unit) => r = 0) (fun (u : Unit) (t : State) => va_P (dC, dI) vwCl [(g0, .inr (11, mF a li ma pu p0))] t.heap ∧ va_K (dC, dI) vwCl [] t ∧ va_D (va_A [(g0, .inr (11, mF a li ma pu th))] sz) [(g0, .inr (11, mF a li ma pu p0))]) (va_A [(g0, .inr (11, mF a li ma pu th))] sz)) 0 0 (va_A [(g0, .inr (11, mF a li ma pu th))] sz) := by
  refine Met.ofW (cc := cX12_fail) (maxL := 2) (ret := (some .int)) (by decide) rfl ?_
  intro p e s m args below meth c s₁ B hml hv
  obtain ⟨rfl, hsz, hP, hK, hD0⟩ := hv
  have hx := B.exec
  have hb := B.bytes
  have hr := B.returns
  have hts := atoms_spec (ws := wsX12_fail) B.pre
  have hown : s.vm.findClass RX12 = some m.cls := findClass_of_methodNamed B.named
  have hlocks := B.notSynchronized
  subst hsz
  have hD := hD0.self (sz := s.heap.size)
  generalize hAe : va_A [(g0, .inr (11, mF a li ma pu th))] s.heap.size = A at hD ⊢
  have hA : ∀ q : Nat, s.heap.size ≤ q → A q := fun q h => by rw [← hAe]; exact Or.inr h
  generalize hH : s.heap = H at hP ⊢
  have hS : va_S A s.heap H [] := by rw [← hH]; exact va_S.rf
  have hl := lv_entry [.ref g0, .int p0] (n := 2) (Nat.le_of_ble_eq_true rfl)
  rw [lg_entry_eq]
  generalize (lg_sl [.ref g0, .int p0] ++ List.replicate (2 - (lg_sl [.ref g0, .int p0]).length) Slot.unset).toArray = ls at hl ⊢
  have hl : lv_has ls 2 [(0, .ref g0), (1, .int p0)] := hl
  have hP : va_P (dC, dI) vwCl [(g0, .inr (11, mF a li ma pu th))] H := hP
  refine lv_aload_n hx hb dX12_fail_0 rfl (lv_at hl 0 rfl) ?_
  refine lv_iload_n hx hb dX12_fail_1 rfl (lv_at hl 1 rfl) ?_
  refine va_put (D := (dC, dI)) (ci := 11) (v := .int p0) (ty := .int) (C := RX12) (T := TX12) (N := 32) hx hb hts (by decide +kernel) tyX12 tyX12_ok nmX12 hown hK hP hD hS 0 rfl rfl 19 (by decide) (hts (.fieldLink RX12 63 "NeededListsModel" "thrown" "I") (by decide +kernel)) (fun _ h9 => h9) rfl (by decide +kernel) rfl rfl (Nat.le_of_ble_eq_true rfl) dX12_fail_2 (fun H locs hP hD hS => ?_)
  have hP : va_P (dC, dI) vwCl [(g0, .inr (11, mF a li ma pu p0))] H := hP
  have hD : va_D A [(g0, .inr (11, mF a li ma pu p0))] := hD
  refine lv_iconst (v := 0) hx hb dX12_fail_5 (by decide) ?_
  refine W.widen (k := 0) (n := 0) (Nat.le_of_ble_eq_true rfl) (Nat.le_of_ble_eq_true rfl) ?_
  have hP9 := hP.sub (ws' := [(g0, .inr (11, mF a li ma pu p0))]) [0] rfl
  have hD9 := hD.sub (ws' := [(g0, .inr (11, mF a li ma pu p0))]) [0] (by decide) rfl
  have hK9 := hK.sub (tys' := []) [] rfl
  exact W.iret (v := 0) hx hb hr (fun t ht hW => ⟨⟨0, (), rfl, rfl, by rw [ht]; exact hP9, va_K.moved hW.alike hK9, hD9⟩, hS.F ht⟩) hS.2.2 dX12_fail_6
set_option maxHeartbeats 4000000 in
set_option maxRecDepth 100000 in
theorem c_X12_isList (l : Launch) (dC : Nat → ClassId) (dI : Nat → Nat → Nat) (a : Nat → Nat) (g0 : Nat) (ma : Int32) (pu : Int32) (th : Int32) (p0 : Int32) (sz : Nat) : Met l yX12_isList wsX12_isList ({ frames := 10, cells := 0, slots := 0, locals := 300 }) (va_Pc [.ref g0, .int p0] (fun U => U.heap.size = sz ∧ va_P (dC, dI) vwCl [(g0, .inr (11, mF a 0 ma pu th))] U.heap ∧ va_K (dC, dI) vwCl [] U ∧ va_D (fun _ => True) [])) (va_Qi (fun (r : Int32) (_ : Unit) => r = 0) (fun _ _ => True) (va_A [] sz)) 0 0 (va_A [] sz) := by
  refine Met.ofW (cc := cX12_isList) (maxL := 2) (ret := (some .boolean)) (by decide) rfl ?_
  intro p e s m args below meth c s₁ B hml hv
  obtain ⟨rfl, hsz, hP, hK, hD0⟩ := hv
  have hx := B.exec
  have hb := B.bytes
  have hr := B.returns
  have hts := atoms_spec (ws := wsX12_isList) B.pre
  have hown : s.vm.findClass RX12 = some m.cls := findClass_of_methodNamed B.named
  have hlocks := B.notSynchronized
  subst hsz
  have hD := hD0.self (sz := s.heap.size)
  generalize hAe : va_A [] s.heap.size = A at hD ⊢
  have hA : ∀ q : Nat, s.heap.size ≤ q → A q := fun q h => by rw [← hAe]; exact Or.inr h
  generalize hH : s.heap = H at hP ⊢
  have hS : va_S A s.heap H [] := by rw [← hH]; exact va_S.rf
  have hl := lv_entry [.ref g0, .int p0] (n := 2) (Nat.le_of_ble_eq_true rfl)
  rw [lg_entry_eq]
  generalize (lg_sl [.ref g0, .int p0] ++ List.replicate (2 - (lg_sl [.ref g0, .int p0]).length) Slot.unset).toArray = ls at hl ⊢
  have hl : lv_has ls 2 [(0, .ref g0), (1, .int p0)] := hl
  have hP : va_P (dC, dI) vwCl [(g0, .inr (11, mF a 0 ma pu th))] H := hP
  refine lv_iload_n hx hb dX12_isList_0 rfl (lv_at hl 1 rfl) ?_
  refine lv_if_lt (tgt := 16) hx hb dX12_isList_1 (by decide) (fun c_1 => ?_) (fun c_1 => ?_)
  · refine lv_iconst (v := 0) hx hb dX12_isList_16 (by decide) ?_
    refine W.widen (k := 0) (n := 0) (Nat.le_of_ble_eq_true rfl) (Nat.le_of_ble_eq_true rfl) ?_
    exact W.zret (v := 0) hx hb hr (by decide) (fun t ht hW => ⟨⟨0, (), rfl, rfl, trivial⟩, hS.F ht⟩) hS.2.2 dX12_isList_17
  · refine lv_iload_n hx hb dX12_isList_4 rfl (lv_at hl 1 rfl) ?_
    refine lv_aload_n hx hb dX12_isList_5 rfl (lv_at hl 0 rfl) ?_
    refine va_get (D := (dC, dI)) (ci := 11) (v := .int 0) (C := RX12) (T := TX12) (N := 32) hx hb hts (by decide +kernel) hown hK hP 0 rfl rfl 0 (by decide) (hts (.fieldLink RX12 66 "NeededListsModel" "lists" "I") (by decide +kernel)) (fun _ h9 => h9) rfl dX12_isList_6 ?_
    refine lv_icmp_ge (tgt := 16) hx hb dX12_isList_9 (by decide) (fun c_9 => ?_) (fun c_9 => ?_)
    · refine lv_iconst (v := 0) hx hb dX12_isList_16 (by decide) ?_
      refine W.widen (k := 0) (n := 0) (Nat.le_of_ble_eq_true rfl) (Nat.le_of_ble_eq_true rfl) ?_
      exact W.zret (v := 0) hx hb hr (by decide) (fun t ht hW => ⟨⟨0, (), rfl, rfl, trivial⟩, hS.F ht⟩) hS.2.2 dX12_isList_17
    · exact absurd (Int32.not_lt.mp c_1) c_9
set_option maxHeartbeats 4000000 in
set_option maxRecDepth 100000 in
theorem c_X12_isOp (l : Launch) (dC : Nat → ClassId) (dI : Nat → Nat → Nat) (p0 : Int32) (sz : Nat) : Met l yX12_isOp wsX12_isOp ({ frames := 10, cells := 0, slots := 0, locals := 300 }) (va_Pc [.int p0] (fun U => U.heap.size = sz ∧ va_P (dC, dI) vwCl [] U.heap ∧ va_K (dC, dI) vwCl [] U ∧ va_D (fun _ => True) [])) (va_Qi (fun (r : Int32) (_ : Unit) => r = bOp p0) (fun _ _ => True) (va_A [] sz)) 0 0 (va_A [] sz) := by
  refine Met.ofW (cc := cX12_isOp) (maxL := 1) (ret := (some .boolean)) (by decide) rfl ?_
  intro p e s m args below meth c s₁ B hml hv
  obtain ⟨rfl, hsz, hP, hK, hD0⟩ := hv
  have hx := B.exec
  have hb := B.bytes
  have hr := B.returns
  have hts := atoms_spec (ws := wsX12_isOp) B.pre
  have hown : s.vm.findClass RX12 = some m.cls := findClass_of_methodNamed B.named
  have hlocks := B.notSynchronized
  subst hsz
  have hD := hD0.self (sz := s.heap.size)
  generalize hAe : va_A [] s.heap.size = A at hD ⊢
  have hA : ∀ q : Nat, s.heap.size ≤ q → A q := fun q h => by rw [← hAe]; exact Or.inr h
  generalize hH : s.heap = H at hP ⊢
  have hS : va_S A s.heap H [] := by rw [← hH]; exact va_S.rf
  have hl := lv_entry [.int p0] (n := 1) (Nat.le_of_ble_eq_true rfl)
  rw [lg_entry_eq]
  generalize (lg_sl [.int p0] ++ List.replicate (1 - (lg_sl [.int p0]).length) Slot.unset).toArray = ls at hl ⊢
  have hl : lv_has ls 1 [(0, .int p0)] := hl
  have hP : va_P (dC, dI) vwCl [] H := hP
  refine lv_iload_n hx hb dX12_isOp_0 rfl (lv_at hl 0 rfl) ?_
  refine lv_if_lt (tgt := 14) hx hb dX12_isOp_1 (by decide) (fun c_1 => ?_) (fun c_1 => ?_)
  · refine lv_iconst (v := 0) hx hb dX12_isOp_14 (by decide) ?_
    refine W.widen (k := 0) (n := 0) (Nat.le_of_ble_eq_true rfl) (Nat.le_of_ble_eq_true rfl) ?_
    exact W.zret (v := 0) hx hb hr (by decide) (fun t ht hW => ⟨⟨0, (), rfl, (if_pos c_1).symm, trivial⟩, hS.F ht⟩) hS.2.2 dX12_isOp_15
  · refine lv_iload_n hx hb dX12_isOp_4 rfl (lv_at hl 0 rfl) ?_
    refine lv_bipush (v := 8) hx hb dX12_isOp_5 (by decide) ?_
    refine lv_icmp_gt (tgt := 14) hx hb dX12_isOp_7 (by decide) (fun c_7 => ?_) (fun c_7 => ?_)
    · refine lv_iconst (v := 0) hx hb dX12_isOp_14 (by decide) ?_
      refine W.widen (k := 0) (n := 0) (Nat.le_of_ble_eq_true rfl) (Nat.le_of_ble_eq_true rfl) ?_
      exact W.zret (v := 0) hx hb hr (by decide) (fun t ht hW => ⟨⟨0, (), rfl, ((if_neg c_1).trans (if_pos c_7)).symm, trivial⟩, hS.F ht⟩) hS.2.2 dX12_isOp_15
    · refine lv_iconst (v := 1) hx hb dX12_isOp_10 (by decide) ?_
      refine lv_goto (tgt := 15) hx hb dX12_isOp_11 (by decide) ?_
      refine W.widen (k := 0) (n := 0) (Nat.le_of_ble_eq_true rfl) (Nat.le_of_ble_eq_true rfl) ?_
      exact W.zret (v := 1) hx hb hr (by decide) (fun t ht hW => ⟨⟨1, (), rfl, ((if_neg c_1).trans (if_neg c_7)).symm, trivial⟩, hS.F ht⟩) hS.2.2 dX12_isOp_15
set_option maxHeartbeats 4000000 in
set_option maxRecDepth 100000 in
theorem c_X12_made (l : Launch) (dC : Nat → ClassId) (dI : Nat → Nat → Nat) (a : Nat → Nat) (g0 : Nat) (cI : ClassId) (cJ : ClassId) (f1 : Nat → Int32) (f2 : Nat → Int32) (f3 : Nat → Int32) (f4 : Nat → Int32) (f5 : Nat → Int64) (f6 : Nat → Int64) (ma : Int32) (pu : Int32) (th : Int32) (p0 : Int32) (p1 : Int32) (p2 : Int32) (p3 : Int32) (p4 : Int64) (p5 : Int64) (sz : Nat) : Met l yX12_made wsX12_made ({ frames := 10, cells := 0, slots := 0, locals := 300 }) (va_Pc [.ref g0, .int p0, .int p1, .int p2, .int p3, .long p4, .long p5] (fun U => U.heap.size = sz ∧ va_P (dC, dI) vwCl [(g0, .inr (11, mF a 0 ma pu th)), (a 1, .inl (cI, 24, .inl (f1))), (a 2, .inl (cI, 24, .inl (f2))), (a 3, .inl (cI, 24, .inl (f3))), (a 4, .inl (cI, 24, .inl (f4))), (a 5, .inl (cJ, 24, .inr (.inl (f5)))), (a 6, .inl (cJ, 24, .inr (.inl (f6))))] U.heap ∧ va_K (dC, dI) vwCl [(cI, .int), (cJ, .long)] U ∧ va_D (fun _ => True) [(g0, .inr (11, mF a 0 ma pu th)), (a 1, .inl (cI, 24, .inl (f1))), (a 2, .inl (cI, 24, .inl (f2))), (a 3, .inl (cI, 24, .inl (f3))), (a 4, .inl (cI, 24, .inl (f4))), (a 5, .inl (cJ, 24, .inr (.inl (f5)))), (a 6, .inl (cJ, 24, .inr (.inl (f6))))])) (va_Qi (fun (r : Int32) (_ : Unit) => r = 0) (fun (u : Unit) (t : State) => va_P (dC, dI) vwCl [(g0, .inr (11, mF a 1 ma pu th))] t.heap ∧ va_K (dC, dI) vwCl [] t ∧ va_D (va_A [(g0, .inr (11, mF a 0 ma pu th)), (a 1, .inl (cI, 24, .inl (f1))), (a 2, .inl (cI, 24, .inl (f2))), (a 3, .inl (cI, 24, .inl (f3))), (a 4, .inl (cI, 24, .inl (f4))), (a 5, .inl (cJ, 24, .inr (.inl (f5)))), (a 6, .inl (cJ, 24, .inr (.inl (f6))))] sz) [(g0, .inr (11, mF a 1 ma pu th))]) (va_A [(g0, .inr (11, mF a 0 ma pu th)), (a 1, .inl (cI, 24, .inl (f1))), (a 2, .inl (cI, 24, .inl (f2))), (a 3, .inl (cI, 24, .inl (f3))), (a 4, .inl (cI, 24, .inl (f4))), (a 5, .inl (cJ, 24, .inr (.inl (f5)))), (a 6, .inl (cJ, 24, .inr (.inl (f6))))] sz)) 0 0 (va_A [(g0, .inr (11, mF a 0 ma pu th)), (a 1, .inl (cI, 24, .inl (f1))), (a 2, .inl (cI, 24, .inl (f2))), (a 3, .inl (cI, 24, .inl (f3))), (a 4, .inl (cI, 24, .inl (f4))), (a 5, .inl (cJ, 24, .inr (.inl (f5)))), (a 6, .inl (cJ, 24, .inr (.inl (f6))))] sz) := by
  refine Met.ofW (cc := cX12_made) (maxL := 9) (ret := (some .int)) (by decide) rfl ?_
  intro p e s m args below meth c s₁ B hml hv
  obtain ⟨rfl, hsz, hP, hK, hD0⟩ := hv
  have hx := B.exec
  have hb := B.bytes
  have hr := B.returns
  have hts := atoms_spec (ws := wsX12_made) B.pre
  have hown : s.vm.findClass RX12 = some m.cls := findClass_of_methodNamed B.named
  have hlocks := B.notSynchronized
  subst hsz
  have hD := hD0.self (sz := s.heap.size)
  generalize hAe : va_A [(g0, .inr (11, mF a 0 ma pu th)), (a 1, .inl (cI, 24, .inl (f1))), (a 2, .inl (cI, 24, .inl (f2))), (a 3, .inl (cI, 24, .inl (f3))), (a 4, .inl (cI, 24, .inl (f4))), (a 5, .inl (cJ, 24, .inr (.inl (f5)))), (a 6, .inl (cJ, 24, .inr (.inl (f6))))] s.heap.size = A at hD ⊢
  have hA : ∀ q : Nat, s.heap.size ≤ q → A q := fun q h => by rw [← hAe]; exact Or.inr h
  generalize hH : s.heap = H at hP ⊢
  have hS : va_S A s.heap H [] := by rw [← hH]; exact va_S.rf
  have hl := lv_entry [.ref g0, .int p0, .int p1, .int p2, .int p3, .long p4, .long p5] (n := 9) (Nat.le_of_ble_eq_true rfl)
  rw [lg_entry_eq]
  generalize (lg_sl [.ref g0, .int p0, .int p1, .int p2, .int p3, .long p4, .long p5] ++ List.replicate (9 - (lg_sl [.ref g0, .int p0, .int p1, .int p2, .int p3, .long p4, .long p5]).length) Slot.unset).toArray = ls at hl ⊢
  have hl : lv_has ls 9 [(0, .ref g0), (1, .int p0), (2, .int p1), (3, .int p2), (4, .int p3), (5, .long p4), (7, .long p5)] := hl
  have hP : va_P (dC, dI) vwCl [(g0, .inr (11, mF a 0 ma pu th)), (a 1, .inl (cI, 24, .inl (f1))), (a 2, .inl (cI, 24, .inl (f2))), (a 3, .inl (cI, 24, .inl (f3))), (a 4, .inl (cI, 24, .inl (f4))), (a 5, .inl (cJ, 24, .inr (.inl (f5)))), (a 6, .inl (cJ, 24, .inr (.inl (f6))))] H := hP
  refine lv_aload_n hx hb dX12_made_0 rfl (lv_at hl 0 rfl) ?_
  refine va_get (D := (dC, dI)) (ci := 11) (v := .ref (a 1)) (C := RX12) (T := TX12) (N := 32) hx hb hts (by decide +kernel) hown hK hP 0 rfl rfl 1 (by decide) (hts (.fieldLink RX12 7 "NeededListsModel" "sort" "[I") (by decide +kernel)) (fun _ h9 => h9) rfl dX12_made_1 ?_
  refine lv_aload_n hx hb dX12_made_4 rfl (lv_at hl 0 rfl) ?_
  refine va_get (D := (dC, dI)) (ci := 11) (v := .int 0) (C := RX12) (T := TX12) (N := 32) hx hb hts (by decide +kernel) hown hK hP 0 rfl rfl 0 (by decide) (hts (.fieldLink RX12 66 "NeededListsModel" "lists" "I") (by decide +kernel)) (fun _ h9 => h9) rfl dX12_made_5 ?_
  refine lv_iload_n hx hb dX12_made_8 rfl (lv_at hl 1 rfl) ?_
  refine va_iast hx hb hK hP hD hS 1 0 rfl rfl (nd_in (i := 0) (n := 24) (by decide)) dX12_made_9 (fun H locs hP hD hS => ?_)
  obtain ⟨f_1, ef_1⟩ : ∃ z, z = upd f1 ((0 : Int32).toNatClampNeg) p0 := ⟨_, rfl⟩
  have hP : va_P (dC, dI) vwCl [(g0, .inr (11, mF a 0 ma pu th)), (a 1, .inl (cI, 24, .inl (upd f1 ((0 : Int32).toNatClampNeg) p0))), (a 2, .inl (cI, 24, .inl (f2))), (a 3, .inl (cI, 24, .inl (f3))), (a 4, .inl (cI, 24, .inl (f4))), (a 5, .inl (cJ, 24, .inr (.inl (f5)))), (a 6, .inl (cJ, 24, .inr (.inl (f6))))] H := hP
  have hD : va_D A [(g0, .inr (11, mF a 0 ma pu th)), (a 1, .inl (cI, 24, .inl (upd f1 ((0 : Int32).toNatClampNeg) p0))), (a 2, .inl (cI, 24, .inl (f2))), (a 3, .inl (cI, 24, .inl (f3))), (a 4, .inl (cI, 24, .inl (f4))), (a 5, .inl (cJ, 24, .inr (.inl (f5)))), (a 6, .inl (cJ, 24, .inr (.inl (f6))))] := hD
  rw [← ef_1] at hP hD
  refine lv_aload_n hx hb dX12_made_10 rfl (lv_at hl 0 rfl) ?_
  refine va_get (D := (dC, dI)) (ci := 11) (v := .ref (a 2)) (C := RX12) (T := TX12) (N := 32) hx hb hts (by decide +kernel) hown hK hP 0 rfl rfl 2 (by decide) (hts (.fieldLink RX12 13 "NeededListsModel" "first" "[I") (by decide +kernel)) (fun _ h9 => h9) rfl dX12_made_11 ?_
  refine lv_aload_n hx hb dX12_made_14 rfl (lv_at hl 0 rfl) ?_
  refine va_get (D := (dC, dI)) (ci := 11) (v := .int 0) (C := RX12) (T := TX12) (N := 32) hx hb hts (by decide +kernel) hown hK hP 0 rfl rfl 0 (by decide) (hts (.fieldLink RX12 66 "NeededListsModel" "lists" "I") (by decide +kernel)) (fun _ h9 => h9) rfl dX12_made_15 ?_
  refine lv_iload_n hx hb dX12_made_18 rfl (lv_at hl 2 rfl) ?_
  refine va_iast hx hb hK hP hD hS 2 0 rfl rfl (nd_in (i := 0) (n := 24) (by decide)) dX12_made_19 (fun H locs hP hD hS => ?_)
  obtain ⟨f_2, ef_2⟩ : ∃ z, z = upd f2 ((0 : Int32).toNatClampNeg) p1 := ⟨_, rfl⟩
  have hP : va_P (dC, dI) vwCl [(g0, .inr (11, mF a 0 ma pu th)), (a 1, .inl (cI, 24, .inl (f_1))), (a 2, .inl (cI, 24, .inl (upd f2 ((0 : Int32).toNatClampNeg) p1))), (a 3, .inl (cI, 24, .inl (f3))), (a 4, .inl (cI, 24, .inl (f4))), (a 5, .inl (cJ, 24, .inr (.inl (f5)))), (a 6, .inl (cJ, 24, .inr (.inl (f6))))] H := hP
  have hD : va_D A [(g0, .inr (11, mF a 0 ma pu th)), (a 1, .inl (cI, 24, .inl (f_1))), (a 2, .inl (cI, 24, .inl (upd f2 ((0 : Int32).toNatClampNeg) p1))), (a 3, .inl (cI, 24, .inl (f3))), (a 4, .inl (cI, 24, .inl (f4))), (a 5, .inl (cJ, 24, .inr (.inl (f5)))), (a 6, .inl (cJ, 24, .inr (.inl (f6))))] := hD
  rw [← ef_2] at hP hD
  refine lv_aload_n hx hb dX12_made_20 rfl (lv_at hl 0 rfl) ?_
  refine va_get (D := (dC, dI)) (ci := 11) (v := .ref (a 3)) (C := RX12) (T := TX12) (N := 32) hx hb hts (by decide +kernel) hown hK hP 0 rfl rfl 3 (by decide) (hts (.fieldLink RX12 16 "NeededListsModel" "second" "[I") (by decide +kernel)) (fun _ h9 => h9) rfl dX12_made_21 ?_
  refine lv_aload_n hx hb dX12_made_24 rfl (lv_at hl 0 rfl) ?_
  refine va_get (D := (dC, dI)) (ci := 11) (v := .int 0) (C := RX12) (T := TX12) (N := 32) hx hb hts (by decide +kernel) hown hK hP 0 rfl rfl 0 (by decide) (hts (.fieldLink RX12 66 "NeededListsModel" "lists" "I") (by decide +kernel)) (fun _ h9 => h9) rfl dX12_made_25 ?_
  refine lv_iload_n hx hb dX12_made_28 rfl (lv_at hl 3 rfl) ?_
  refine va_iast hx hb hK hP hD hS 3 0 rfl rfl (nd_in (i := 0) (n := 24) (by decide)) dX12_made_29 (fun H locs hP hD hS => ?_)
  obtain ⟨f_3, ef_3⟩ : ∃ z, z = upd f3 ((0 : Int32).toNatClampNeg) p2 := ⟨_, rfl⟩
  have hP : va_P (dC, dI) vwCl [(g0, .inr (11, mF a 0 ma pu th)), (a 1, .inl (cI, 24, .inl (f_1))), (a 2, .inl (cI, 24, .inl (f_2))), (a 3, .inl (cI, 24, .inl (upd f3 ((0 : Int32).toNatClampNeg) p2))), (a 4, .inl (cI, 24, .inl (f4))), (a 5, .inl (cJ, 24, .inr (.inl (f5)))), (a 6, .inl (cJ, 24, .inr (.inl (f6))))] H := hP
  have hD : va_D A [(g0, .inr (11, mF a 0 ma pu th)), (a 1, .inl (cI, 24, .inl (f_1))), (a 2, .inl (cI, 24, .inl (f_2))), (a 3, .inl (cI, 24, .inl (upd f3 ((0 : Int32).toNatClampNeg) p2))), (a 4, .inl (cI, 24, .inl (f4))), (a 5, .inl (cJ, 24, .inr (.inl (f5)))), (a 6, .inl (cJ, 24, .inr (.inl (f6))))] := hD
  rw [← ef_3] at hP hD
  refine lv_aload_n hx hb dX12_made_30 rfl (lv_at hl 0 rfl) ?_
  refine va_get (D := (dC, dI)) (ci := 11) (v := .ref (a 4)) (C := RX12) (T := TX12) (N := 32) hx hb hts (by decide +kernel) hown hK hP 0 rfl rfl 4 (by decide) (hts (.fieldLink RX12 19 "NeededListsModel" "code" "[I") (by decide +kernel)) (fun _ h9 => h9) rfl dX12_made_31 ?_
  refine lv_aload_n hx hb dX12_made_34 rfl (lv_at hl 0 rfl) ?_
  refine va_get (D := (dC, dI)) (ci := 11) (v := .int 0) (C := RX12) (T := TX12) (N := 32) hx hb hts (by decide +kernel) hown hK hP 0 rfl rfl 0 (by decide) (hts (.fieldLink RX12 66 "NeededListsModel" "lists" "I") (by decide +kernel)) (fun _ h9 => h9) rfl dX12_made_35 ?_
  refine lv_iload hx hb dX12_made_38 (lv_at hl 4 rfl) ?_
  refine va_iast hx hb hK hP hD hS 4 0 rfl rfl (nd_in (i := 0) (n := 24) (by decide)) dX12_made_40 (fun H locs hP hD hS => ?_)
  obtain ⟨f_4, ef_4⟩ : ∃ z, z = upd f4 ((0 : Int32).toNatClampNeg) p3 := ⟨_, rfl⟩
  have hP : va_P (dC, dI) vwCl [(g0, .inr (11, mF a 0 ma pu th)), (a 1, .inl (cI, 24, .inl (f_1))), (a 2, .inl (cI, 24, .inl (f_2))), (a 3, .inl (cI, 24, .inl (f_3))), (a 4, .inl (cI, 24, .inl (upd f4 ((0 : Int32).toNatClampNeg) p3))), (a 5, .inl (cJ, 24, .inr (.inl (f5)))), (a 6, .inl (cJ, 24, .inr (.inl (f6))))] H := hP
  have hD : va_D A [(g0, .inr (11, mF a 0 ma pu th)), (a 1, .inl (cI, 24, .inl (f_1))), (a 2, .inl (cI, 24, .inl (f_2))), (a 3, .inl (cI, 24, .inl (f_3))), (a 4, .inl (cI, 24, .inl (upd f4 ((0 : Int32).toNatClampNeg) p3))), (a 5, .inl (cJ, 24, .inr (.inl (f5)))), (a 6, .inl (cJ, 24, .inr (.inl (f6))))] := hD
  rw [← ef_4] at hP hD
  refine lv_aload_n hx hb dX12_made_41 rfl (lv_at hl 0 rfl) ?_
  refine va_get (D := (dC, dI)) (ci := 11) (v := .ref (a 5)) (C := RX12) (T := TX12) (N := 32) hx hb hts (by decide +kernel) hown hK hP 0 rfl rfl 5 (by decide) (hts (.fieldLink RX12 22 "NeededListsModel" "number" "[J") (by decide +kernel)) (fun _ h9 => h9) rfl dX12_made_42 ?_
  refine lv_aload_n hx hb dX12_made_45 rfl (lv_at hl 0 rfl) ?_
  refine va_get (D := (dC, dI)) (ci := 11) (v := .int 0) (C := RX12) (T := TX12) (N := 32) hx hb hts (by decide +kernel) hown hK hP 0 rfl rfl 0 (by decide) (hts (.fieldLink RX12 66 "NeededListsModel" "lists" "I") (by decide +kernel)) (fun _ h9 => h9) rfl dX12_made_46 ?_
  refine lv_lload hx hb dX12_made_49 (lv_at hl 5 rfl) ?_
  refine va_last hx hb hK hP hD hS 5 1 rfl rfl (nd_in (i := 0) (n := 24) (by decide)) dX12_made_51 (fun H locs hP hD hS => ?_)
  obtain ⟨f_5, ef_5⟩ : ∃ z, z = vp_updL f5 ((0 : Int32).toNatClampNeg) p4 := ⟨_, rfl⟩
  have hP : va_P (dC, dI) vwCl [(g0, .inr (11, mF a 0 ma pu th)), (a 1, .inl (cI, 24, .inl (f_1))), (a 2, .inl (cI, 24, .inl (f_2))), (a 3, .inl (cI, 24, .inl (f_3))), (a 4, .inl (cI, 24, .inl (f_4))), (a 5, .inl (cJ, 24, .inr (.inl (vp_updL f5 ((0 : Int32).toNatClampNeg) p4)))), (a 6, .inl (cJ, 24, .inr (.inl (f6))))] H := hP
  have hD : va_D A [(g0, .inr (11, mF a 0 ma pu th)), (a 1, .inl (cI, 24, .inl (f_1))), (a 2, .inl (cI, 24, .inl (f_2))), (a 3, .inl (cI, 24, .inl (f_3))), (a 4, .inl (cI, 24, .inl (f_4))), (a 5, .inl (cJ, 24, .inr (.inl (vp_updL f5 ((0 : Int32).toNatClampNeg) p4)))), (a 6, .inl (cJ, 24, .inr (.inl (f6))))] := hD
  rw [← ef_5] at hP hD
  refine lv_aload_n hx hb dX12_made_52 rfl (lv_at hl 0 rfl) ?_
  refine va_get (D := (dC, dI)) (ci := 11) (v := .ref (a 6)) (C := RX12) (T := TX12) (N := 32) hx hb hts (by decide +kernel) hown hK hP 0 rfl rfl 6 (by decide) (hts (.fieldLink RX12 26 "NeededListsModel" "other" "[J") (by decide +kernel)) (fun _ h9 => h9) rfl dX12_made_53 ?_
  refine lv_aload_n hx hb dX12_made_56 rfl (lv_at hl 0 rfl) ?_
  refine va_get (D := (dC, dI)) (ci := 11) (v := .int 0) (C := RX12) (T := TX12) (N := 32) hx hb hts (by decide +kernel) hown hK hP 0 rfl rfl 0 (by decide) (hts (.fieldLink RX12 66 "NeededListsModel" "lists" "I") (by decide +kernel)) (fun _ h9 => h9) rfl dX12_made_57 ?_
  refine lv_lload hx hb dX12_made_60 (lv_at hl 6 rfl) ?_
  refine va_last hx hb hK hP hD hS 6 1 rfl rfl (nd_in (i := 0) (n := 24) (by decide)) dX12_made_62 (fun H locs hP hD hS => ?_)
  obtain ⟨f_6, ef_6⟩ : ∃ z, z = vp_updL f6 ((0 : Int32).toNatClampNeg) p5 := ⟨_, rfl⟩
  have hP : va_P (dC, dI) vwCl [(g0, .inr (11, mF a 0 ma pu th)), (a 1, .inl (cI, 24, .inl (f_1))), (a 2, .inl (cI, 24, .inl (f_2))), (a 3, .inl (cI, 24, .inl (f_3))), (a 4, .inl (cI, 24, .inl (f_4))), (a 5, .inl (cJ, 24, .inr (.inl (f_5)))), (a 6, .inl (cJ, 24, .inr (.inl (vp_updL f6 ((0 : Int32).toNatClampNeg) p5))))] H := hP
  have hD : va_D A [(g0, .inr (11, mF a 0 ma pu th)), (a 1, .inl (cI, 24, .inl (f_1))), (a 2, .inl (cI, 24, .inl (f_2))), (a 3, .inl (cI, 24, .inl (f_3))), (a 4, .inl (cI, 24, .inl (f_4))), (a 5, .inl (cJ, 24, .inr (.inl (f_5)))), (a 6, .inl (cJ, 24, .inr (.inl (vp_updL f6 ((0 : Int32).toNatClampNeg) p5))))] := hD
  rw [← ef_6] at hP hD
  refine lv_aload_n hx hb dX12_made_63 rfl (lv_at hl 0 rfl) ?_
  refine lv_dup hx hb dX12_made_64 rfl ?_
  refine va_get (D := (dC, dI)) (ci := 11) (v := .int 0) (C := RX12) (T := TX12) (N := 32) hx hb hts (by decide +kernel) hown hK hP 0 rfl rfl 0 (by decide) (hts (.fieldLink RX12 66 "NeededListsModel" "lists" "I") (by decide +kernel)) (fun _ h9 => h9) rfl dX12_made_65 ?_
  refine lv_iconst (v := 1) hx hb dX12_made_68 (by decide) ?_
  refine lv_iadd hx hb dX12_made_69 ?_
  refine lv_topi (fun z_7 ez_7 => ?_)
  obtain rfl : z_7 = 1 := ez_7.trans (by decide)
  refine va_put (D := (dC, dI)) (ci := 11) (v := .int 1) (ty := .int) (C := RX12) (T := TX12) (N := 32) hx hb hts (by decide +kernel) tyX12 tyX12_ok nmX12 hown hK hP hD hS 0 rfl rfl 0 (by decide) (hts (.fieldLink RX12 66 "NeededListsModel" "lists" "I") (by decide +kernel)) (fun _ h9 => h9) rfl (by decide +kernel) rfl rfl (Nat.le_of_ble_eq_true rfl) dX12_made_70 (fun H locs hP hD hS => ?_)
  have hP : va_P (dC, dI) vwCl [(g0, .inr (11, mF a 1 ma pu th)), (a 1, .inl (cI, 24, .inl (f_1))), (a 2, .inl (cI, 24, .inl (f_2))), (a 3, .inl (cI, 24, .inl (f_3))), (a 4, .inl (cI, 24, .inl (f_4))), (a 5, .inl (cJ, 24, .inr (.inl (f_5)))), (a 6, .inl (cJ, 24, .inr (.inl (f_6))))] H := hP
  have hD : va_D A [(g0, .inr (11, mF a 1 ma pu th)), (a 1, .inl (cI, 24, .inl (f_1))), (a 2, .inl (cI, 24, .inl (f_2))), (a 3, .inl (cI, 24, .inl (f_3))), (a 4, .inl (cI, 24, .inl (f_4))), (a 5, .inl (cJ, 24, .inr (.inl (f_5)))), (a 6, .inl (cJ, 24, .inr (.inl (f_6))))] := hD
  refine lv_aload_n hx hb dX12_made_73 rfl (lv_at hl 0 rfl) ?_
  refine va_get (D := (dC, dI)) (ci := 11) (v := .int 1) (C := RX12) (T := TX12) (N := 32) hx hb hts (by decide +kernel) hown hK hP 0 rfl rfl 0 (by decide) (hts (.fieldLink RX12 66 "NeededListsModel" "lists" "I") (by decide +kernel)) (fun _ h9 => h9) rfl dX12_made_74 ?_
  refine lv_iconst (v := 1) hx hb dX12_made_77 (by decide) ?_
  refine lv_isub hx hb dX12_made_78 ?_
  refine lv_topi (fun z_8 ez_8 => ?_)
  obtain rfl : z_8 = 0 := ez_8.trans (by decide)
  refine W.widen (k := 0) (n := 0) (Nat.le_of_ble_eq_true rfl) (Nat.le_of_ble_eq_true rfl) ?_
  have hP9 := hP.sub (ws' := [(g0, .inr (11, mF a 1 ma pu th))]) [0] rfl
  have hD9 := hD.sub (ws' := [(g0, .inr (11, mF a 1 ma pu th))]) [0] (by decide) rfl
  have hK9 := hK.sub (tys' := []) [] rfl
  exact W.iret (v := 0) hx hb hr (fun t ht hW => ⟨⟨0, (), rfl, rfl, by rw [ht]; exact hP9, va_K.moved hW.alike hK9, hD9⟩, hS.F ht⟩) hS.2.2 dX12_made_79
set_option maxHeartbeats 4000000 in
set_option maxRecDepth 100000 in
theorem c_X12_outcome (l : Launch) (dC : Nat → ClassId) (dI : Nat → Nat → Nat) (a : Nat → Nat) (g0 : Nat) (sz : Nat) : Met l yX12_outcome wsX12_outcome ({ frames := 20, cells := 0, slots := 0, locals := 600 }) (va_Pc [.ref g0] (fun U => U.heap.size = sz ∧ va_P (dC, dI) vwCl [(g0, .inr (11, mF a 0 0 1000 0))] U.heap ∧ va_K (dC, dI) vwCl [] U ∧ va_D (fun _ => True) [(g0, .inr (11, mF a 0 0 1000 0))])) (va_Qi (fun (r : Int32) (u : Int32 × Int32 × Int32 × Int32) => u.2.2.2 = 0 ∧ (0 = 0 → r = 0)) (fun (u : Int32 × Int32 × Int32 × Int32) (t : State) => va_P (dC, dI) vwCl [(g0, .inr (11, mF a u.1 u.2.1 u.2.2.1 u.2.2.2))] t.heap ∧ va_K (dC, dI) vwCl [] t ∧ va_D (va_A [(g0, .inr (11, mF a 0 0 1000 0))] sz) [(g0, .inr (11, mF a u.1 u.2.1 u.2.2.1 u.2.2.2))]) (va_A [(g0, .inr (11, mF a 0 0 1000 0))] sz)) 0 0 (va_A [(g0, .inr (11, mF a 0 0 1000 0))] sz) := by
  refine Met.ofW (cc := cX12_outcome) (maxL := 1) (ret := (some .int)) (by decide) rfl ?_
  intro p e s m args below meth c s₁ B hml hv
  obtain ⟨rfl, hsz, hP, hK, hD0⟩ := hv
  have hx := B.exec
  have hb := B.bytes
  have hr := B.returns
  have hts := atoms_spec (ws := wsX12_outcome) B.pre
  have hown : s.vm.findClass RX12 = some m.cls := findClass_of_methodNamed B.named
  have hlocks := B.notSynchronized
  subst hsz
  have hD := hD0.self (sz := s.heap.size)
  generalize hAe : va_A [(g0, .inr (11, mF a 0 0 1000 0))] s.heap.size = A at hD ⊢
  have hA : ∀ q : Nat, s.heap.size ≤ q → A q := fun q h => by rw [← hAe]; exact Or.inr h
  generalize hH : s.heap = H at hP ⊢
  have hS : va_S A s.heap H [] := by rw [← hH]; exact va_S.rf
  have hl := lv_entry [.ref g0] (n := 1) (Nat.le_of_ble_eq_true rfl)
  rw [lg_entry_eq]
  generalize (lg_sl [.ref g0] ++ List.replicate (1 - (lg_sl [.ref g0]).length) Slot.unset).toArray = ls at hl ⊢
  have hl : lv_has ls 1 [(0, .ref g0)] := hl
  have hP : va_P (dC, dI) vwCl [(g0, .inr (11, mF a 0 0 1000 0))] H := hP
  refine lv_aload_n hx hb dX12_outcome_0 rfl (lv_at hl 0 rfl) ?_
  refine lv_iconst (v := 0) hx hb dX12_outcome_1 (by decide) ?_
  refine va_put (D := (dC, dI)) (ci := 11) (v := .int 0) (ty := .int) (C := RX12) (T := TX12) (N := 32) hx hb hts (by decide +kernel) tyX12 tyX12_ok nmX12 hown hK hP hD hS 0 rfl rfl 19 (by decide) (hts (.fieldLink RX12 63 "NeededListsModel" "thrown" "I") (by decide +kernel)) (fun _ h9 => h9) rfl (by decide +kernel) rfl rfl (Nat.le_of_ble_eq_true rfl) dX12_outcome_2 (fun H locs hP hD hS => ?_)
  have hP : va_P (dC, dI) vwCl [(g0, .inr (11, mF a 0 0 1000 0))] H := hP
  have hD : va_D A [(g0, .inr (11, mF a 0 0 1000 0))] := hD
  refine lv_aload_n hx hb dX12_outcome_5 rfl (lv_at hl 0 rfl) ?_
  refine va_get (D := (dC, dI)) (ci := 11) (v := .int 0) (C := RX12) (T := TX12) (N := 32) hx hb hts (by decide +kernel) hown hK hP 0 rfl rfl 17 (by decide) (hts (.fieldLink RX12 203 "NeededListsModel" "outcome" "I") (by decide +kernel)) (fun _ h9 => h9) rfl dX12_outcome_6 ?_
  refine W.widen (k := 0) (n := 0) (Nat.le_of_ble_eq_true rfl) (Nat.le_of_ble_eq_true rfl) ?_
  have hP9 := hP.sub (ws' := [(g0, .inr (11, mF a 0 0 1000 0))]) [0] rfl
  have hD9 := hD.sub (ws' := [(g0, .inr (11, mF a 0 0 1000 0))]) [0] (by decide) rfl
  have hK9 := hK.sub (tys' := []) [] rfl
  exact W.iret (v := 0) hx hb hr (fun t ht hW => ⟨⟨0, (0, 0, 1000, 0), rfl, ⟨rfl, fun _ => rfl⟩, by rw [ht]; exact hP9, va_K.moved hW.alike hK9, hD9⟩, hS.F ht⟩) hS.2.2 dX12_outcome_9
set_option maxHeartbeats 4000000 in
set_option maxRecDepth 100000 in
theorem c_X12_error (l : Launch) (dC : Nat → ClassId) (dI : Nat → Nat → Nat) (a : Nat → Nat) (g0 : Nat) (sz : Nat) : Met l yX12_error wsX12_error ({ frames := 20, cells := 0, slots := 0, locals := 600 }) (va_Pc [.ref g0] (fun U => U.heap.size = sz ∧ va_P (dC, dI) vwCl [(g0, .inr (11, mF a 0 0 1000 0))] U.heap ∧ va_K (dC, dI) vwCl [] U ∧ va_D (fun _ => True) [(g0, .inr (11, mF a 0 0 1000 0))])) (va_Qi (fun (r : Int32) (u : Int32 × Int32 × Int32 × Int32) => u.2.2.2 = 0 ∧ (0 = 0 → r = 0)) (fun (u : Int32 × Int32 × Int32 × Int32) (t : State) => va_P (dC, dI) vwCl [(g0, .inr (11, mF a u.1 u.2.1 u.2.2.1 u.2.2.2))] t.heap ∧ va_K (dC, dI) vwCl [] t ∧ va_D (va_A [(g0, .inr (11, mF a 0 0 1000 0))] sz) [(g0, .inr (11, mF a u.1 u.2.1 u.2.2.1 u.2.2.2))]) (va_A [(g0, .inr (11, mF a 0 0 1000 0))] sz)) 0 0 (va_A [(g0, .inr (11, mF a 0 0 1000 0))] sz) := by
  refine Met.ofW (cc := cX12_error) (maxL := 1) (ret := (some .int)) (by decide) rfl ?_
  intro p e s m args below meth c s₁ B hml hv
  obtain ⟨rfl, hsz, hP, hK, hD0⟩ := hv
  have hx := B.exec
  have hb := B.bytes
  have hr := B.returns
  have hts := atoms_spec (ws := wsX12_error) B.pre
  have hown : s.vm.findClass RX12 = some m.cls := findClass_of_methodNamed B.named
  have hlocks := B.notSynchronized
  subst hsz
  have hD := hD0.self (sz := s.heap.size)
  generalize hAe : va_A [(g0, .inr (11, mF a 0 0 1000 0))] s.heap.size = A at hD ⊢
  have hA : ∀ q : Nat, s.heap.size ≤ q → A q := fun q h => by rw [← hAe]; exact Or.inr h
  generalize hH : s.heap = H at hP ⊢
  have hS : va_S A s.heap H [] := by rw [← hH]; exact va_S.rf
  have hl := lv_entry [.ref g0] (n := 1) (Nat.le_of_ble_eq_true rfl)
  rw [lg_entry_eq]
  generalize (lg_sl [.ref g0] ++ List.replicate (1 - (lg_sl [.ref g0]).length) Slot.unset).toArray = ls at hl ⊢
  have hl : lv_has ls 1 [(0, .ref g0)] := hl
  have hP : va_P (dC, dI) vwCl [(g0, .inr (11, mF a 0 0 1000 0))] H := hP
  refine lv_aload_n hx hb dX12_error_0 rfl (lv_at hl 0 rfl) ?_
  refine lv_iconst (v := 0) hx hb dX12_error_1 (by decide) ?_
  refine va_put (D := (dC, dI)) (ci := 11) (v := .int 0) (ty := .int) (C := RX12) (T := TX12) (N := 32) hx hb hts (by decide +kernel) tyX12 tyX12_ok nmX12 hown hK hP hD hS 0 rfl rfl 19 (by decide) (hts (.fieldLink RX12 63 "NeededListsModel" "thrown" "I") (by decide +kernel)) (fun _ h9 => h9) rfl (by decide +kernel) rfl rfl (Nat.le_of_ble_eq_true rfl) dX12_error_2 (fun H locs hP hD hS => ?_)
  have hP : va_P (dC, dI) vwCl [(g0, .inr (11, mF a 0 0 1000 0))] H := hP
  have hD : va_D A [(g0, .inr (11, mF a 0 0 1000 0))] := hD
  refine lv_aload_n hx hb dX12_error_5 rfl (lv_at hl 0 rfl) ?_
  refine va_get (D := (dC, dI)) (ci := 11) (v := .int 0) (C := RX12) (T := TX12) (N := 32) hx hb hts (by decide +kernel) hown hK hP 0 rfl rfl 18 (by decide) (hts (.fieldLink RX12 206 "NeededListsModel" "error" "I") (by decide +kernel)) (fun _ h9 => h9) rfl dX12_error_6 ?_
  refine W.widen (k := 0) (n := 0) (Nat.le_of_ble_eq_true rfl) (Nat.le_of_ble_eq_true rfl) ?_
  have hP9 := hP.sub (ws' := [(g0, .inr (11, mF a 0 0 1000 0))]) [0] rfl
  have hD9 := hD.sub (ws' := [(g0, .inr (11, mF a 0 0 1000 0))]) [0] (by decide) rfl
  have hK9 := hK.sub (tys' := []) [] rfl
  exact W.iret (v := 0) hx hb hr (fun t ht hW => ⟨⟨0, (0, 0, 1000, 0), rfl, ⟨rfl, fun _ => rfl⟩, by rw [ht]; exact hP9, va_K.moved hW.alike hK9, hD9⟩, hS.F ht⟩) hS.2.2 dX12_error_9
set_option maxHeartbeats 4000000 in
set_option maxRecDepth 100000 in
theorem c_X12_spent (l : Launch) (dC : Nat → ClassId) (dI : Nat → Nat → Nat) (a : Nat → Nat) (g0 : Nat) (sz : Nat) : Met l yX12_spent wsX12_spent ({ frames := 20, cells := 0, slots := 0, locals := 600 }) (va_Pc [.ref g0] (fun U => U.heap.size = sz ∧ va_P (dC, dI) vwCl [(g0, .inr (11, mF a 0 0 1000 0))] U.heap ∧ va_K (dC, dI) vwCl [] U ∧ va_D (fun _ => True) [(g0, .inr (11, mF a 0 0 1000 0))])) (va_Qi (fun (r : Int32) (u : Int32 × Int32 × Int32 × Int32) => u.2.2.2 = 0 ∧ (0 = 0 → r = 0)) (fun (u : Int32 × Int32 × Int32 × Int32) (t : State) => va_P (dC, dI) vwCl [(g0, .inr (11, mF a u.1 u.2.1 u.2.2.1 u.2.2.2))] t.heap ∧ va_K (dC, dI) vwCl [] t ∧ va_D (va_A [(g0, .inr (11, mF a 0 0 1000 0))] sz) [(g0, .inr (11, mF a u.1 u.2.1 u.2.2.1 u.2.2.2))]) (va_A [(g0, .inr (11, mF a 0 0 1000 0))] sz)) 0 0 (va_A [(g0, .inr (11, mF a 0 0 1000 0))] sz) := by
  refine Met.ofW (cc := cX12_spent) (maxL := 1) (ret := (some .int)) (by decide) rfl ?_
  intro p e s m args below meth c s₁ B hml hv
  obtain ⟨rfl, hsz, hP, hK, hD0⟩ := hv
  have hx := B.exec
  have hb := B.bytes
  have hr := B.returns
  have hts := atoms_spec (ws := wsX12_spent) B.pre
  have hown : s.vm.findClass RX12 = some m.cls := findClass_of_methodNamed B.named
  have hlocks := B.notSynchronized
  subst hsz
  have hD := hD0.self (sz := s.heap.size)
  generalize hAe : va_A [(g0, .inr (11, mF a 0 0 1000 0))] s.heap.size = A at hD ⊢
  have hA : ∀ q : Nat, s.heap.size ≤ q → A q := fun q h => by rw [← hAe]; exact Or.inr h
  generalize hH : s.heap = H at hP ⊢
  have hS : va_S A s.heap H [] := by rw [← hH]; exact va_S.rf
  have hl := lv_entry [.ref g0] (n := 1) (Nat.le_of_ble_eq_true rfl)
  rw [lg_entry_eq]
  generalize (lg_sl [.ref g0] ++ List.replicate (1 - (lg_sl [.ref g0]).length) Slot.unset).toArray = ls at hl ⊢
  have hl : lv_has ls 1 [(0, .ref g0)] := hl
  have hP : va_P (dC, dI) vwCl [(g0, .inr (11, mF a 0 0 1000 0))] H := hP
  refine lv_aload_n hx hb dX12_spent_0 rfl (lv_at hl 0 rfl) ?_
  refine lv_iconst (v := 0) hx hb dX12_spent_1 (by decide) ?_
  refine va_put (D := (dC, dI)) (ci := 11) (v := .int 0) (ty := .int) (C := RX12) (T := TX12) (N := 32) hx hb hts (by decide +kernel) tyX12 tyX12_ok nmX12 hown hK hP hD hS 0 rfl rfl 19 (by decide) (hts (.fieldLink RX12 63 "NeededListsModel" "thrown" "I") (by decide +kernel)) (fun _ h9 => h9) rfl (by decide +kernel) rfl rfl (Nat.le_of_ble_eq_true rfl) dX12_spent_2 (fun H locs hP hD hS => ?_)
  have hP : va_P (dC, dI) vwCl [(g0, .inr (11, mF a 0 0 1000 0))] H := hP
  have hD : va_D A [(g0, .inr (11, mF a 0 0 1000 0))] := hD
  refine lv_aload_n hx hb dX12_spent_5 rfl (lv_at hl 0 rfl) ?_
  refine va_get (D := (dC, dI)) (ci := 11) (v := .int 0) (C := RX12) (T := TX12) (N := 32) hx hb hts (by decide +kernel) hown hK hP 0 rfl rfl 16 (by decide) (hts (.fieldLink RX12 200 "NeededListsModel" "spent" "I") (by decide +kernel)) (fun _ h9 => h9) rfl dX12_spent_6 ?_
  refine W.widen (k := 0) (n := 0) (Nat.le_of_ble_eq_true rfl) (Nat.le_of_ble_eq_true rfl) ?_
  have hP9 := hP.sub (ws' := [(g0, .inr (11, mF a 0 0 1000 0))]) [0] rfl
  have hD9 := hD.sub (ws' := [(g0, .inr (11, mF a 0 0 1000 0))]) [0] (by decide) rfl
  have hK9 := hK.sub (tys' := []) [] rfl
  exact W.iret (v := 0) hx hb hr (fun t ht hW => ⟨⟨0, (0, 0, 1000, 0), rfl, ⟨rfl, fun _ => rfl⟩, by rw [ht]; exact hP9, va_K.moved hW.alike hK9, hD9⟩, hS.F ht⟩) hS.2.2 dX12_spent_9
set_option maxHeartbeats 4000000 in
set_option maxRecDepth 100000 in
theorem c_X12_lists (l : Launch) (dC : Nat → ClassId) (dI : Nat → Nat → Nat) (a : Nat → Nat) (g0 : Nat) (sz : Nat) : Met l yX12_lists wsX12_lists ({ frames := 20, cells := 0, slots := 0, locals := 600 }) (va_Pc [.ref g0] (fun U => U.heap.size = sz ∧ va_P (dC, dI) vwCl [(g0, .inr (11, mF a 0 0 1000 0))] U.heap ∧ va_K (dC, dI) vwCl [] U ∧ va_D (fun _ => True) [(g0, .inr (11, mF a 0 0 1000 0))])) (va_Qi (fun (r : Int32) (u : Int32 × Int32 × Int32 × Int32) => u.2.2.2 = 0 ∧ (0 = 0 → r = 0)) (fun (u : Int32 × Int32 × Int32 × Int32) (t : State) => va_P (dC, dI) vwCl [(g0, .inr (11, mF a u.1 u.2.1 u.2.2.1 u.2.2.2))] t.heap ∧ va_K (dC, dI) vwCl [] t ∧ va_D (va_A [(g0, .inr (11, mF a 0 0 1000 0))] sz) [(g0, .inr (11, mF a u.1 u.2.1 u.2.2.1 u.2.2.2))]) (va_A [(g0, .inr (11, mF a 0 0 1000 0))] sz)) 0 0 (va_A [(g0, .inr (11, mF a 0 0 1000 0))] sz) := by
  refine Met.ofW (cc := cX12_lists) (maxL := 1) (ret := (some .int)) (by decide) rfl ?_
  intro p e s m args below meth c s₁ B hml hv
  obtain ⟨rfl, hsz, hP, hK, hD0⟩ := hv
  have hx := B.exec
  have hb := B.bytes
  have hr := B.returns
  have hts := atoms_spec (ws := wsX12_lists) B.pre
  have hown : s.vm.findClass RX12 = some m.cls := findClass_of_methodNamed B.named
  have hlocks := B.notSynchronized
  subst hsz
  have hD := hD0.self (sz := s.heap.size)
  generalize hAe : va_A [(g0, .inr (11, mF a 0 0 1000 0))] s.heap.size = A at hD ⊢
  have hA : ∀ q : Nat, s.heap.size ≤ q → A q := fun q h => by rw [← hAe]; exact Or.inr h
  generalize hH : s.heap = H at hP ⊢
  have hS : va_S A s.heap H [] := by rw [← hH]; exact va_S.rf
  have hl := lv_entry [.ref g0] (n := 1) (Nat.le_of_ble_eq_true rfl)
  rw [lg_entry_eq]
  generalize (lg_sl [.ref g0] ++ List.replicate (1 - (lg_sl [.ref g0]).length) Slot.unset).toArray = ls at hl ⊢
  have hl : lv_has ls 1 [(0, .ref g0)] := hl
  have hP : va_P (dC, dI) vwCl [(g0, .inr (11, mF a 0 0 1000 0))] H := hP
  refine lv_aload_n hx hb dX12_lists_0 rfl (lv_at hl 0 rfl) ?_
  refine lv_iconst (v := 0) hx hb dX12_lists_1 (by decide) ?_
  refine va_put (D := (dC, dI)) (ci := 11) (v := .int 0) (ty := .int) (C := RX12) (T := TX12) (N := 32) hx hb hts (by decide +kernel) tyX12 tyX12_ok nmX12 hown hK hP hD hS 0 rfl rfl 19 (by decide) (hts (.fieldLink RX12 63 "NeededListsModel" "thrown" "I") (by decide +kernel)) (fun _ h9 => h9) rfl (by decide +kernel) rfl rfl (Nat.le_of_ble_eq_true rfl) dX12_lists_2 (fun H locs hP hD hS => ?_)
  have hP : va_P (dC, dI) vwCl [(g0, .inr (11, mF a 0 0 1000 0))] H := hP
  have hD : va_D A [(g0, .inr (11, mF a 0 0 1000 0))] := hD
  refine lv_aload_n hx hb dX12_lists_5 rfl (lv_at hl 0 rfl) ?_
  refine va_get (D := (dC, dI)) (ci := 11) (v := .int 0) (C := RX12) (T := TX12) (N := 32) hx hb hts (by decide +kernel) hown hK hP 0 rfl rfl 0 (by decide) (hts (.fieldLink RX12 66 "NeededListsModel" "lists" "I") (by decide +kernel)) (fun _ h9 => h9) rfl dX12_lists_6 ?_
  refine W.widen (k := 0) (n := 0) (Nat.le_of_ble_eq_true rfl) (Nat.le_of_ble_eq_true rfl) ?_
  have hP9 := hP.sub (ws' := [(g0, .inr (11, mF a 0 0 1000 0))]) [0] rfl
  have hD9 := hD.sub (ws' := [(g0, .inr (11, mF a 0 0 1000 0))]) [0] (by decide) rfl
  have hK9 := hK.sub (tys' := []) [] rfl
  exact W.iret (v := 0) hx hb hr (fun t ht hW => ⟨⟨0, (0, 0, 1000, 0), rfl, ⟨rfl, fun _ => rfl⟩, by rw [ht]; exact hP9, va_K.moved hW.alike hK9, hD9⟩, hS.F ht⟩) hS.2.2 dX12_lists_9
set_option maxHeartbeats 4000000 in
set_option maxRecDepth 100000 in
theorem c_X12_map (l : Launch) (dC : Nat → ClassId) (dI : Nat → Nat → Nat) (a : Nat → Nat) (g0 : Nat) (p0 : Int32) (p1 : Int32) (p2 : Int64) (sz : Nat) : Met l yX12_map wsX12_map ({ frames := 20, cells := 0, slots := 0, locals := 600 }) (va_Pc [.ref g0, .int p0, .int p1, .long p2] (fun U => U.heap.size = sz ∧ va_P (dC, dI) vwCl [(g0, .inr (11, mF a 0 0 1000 0))] U.heap ∧ va_K (dC, dI) vwCl [] U ∧ va_D (fun _ => True) [(g0, .inr (11, mF a 0 0 1000 0))])) (va_Qi (fun (r : Int32) (u : Int32 × Int32 × Int32 × Int32) => u.2.2.2 = 1) (fun (u : Int32 × Int32 × Int32 × Int32) (t : State) => va_P (dC, dI) vwCl [(g0, .inr (11, mF a u.1 u.2.1 u.2.2.1 u.2.2.2))] t.heap ∧ va_K (dC, dI) vwCl [] t ∧ va_D (va_A [(g0, .inr (11, mF a 0 0 1000 0))] sz) [(g0, .inr (11, mF a u.1 u.2.1 u.2.2.1 u.2.2.2))]) (va_A [(g0, .inr (11, mF a 0 0 1000 0))] sz)) 0 0 (va_A [(g0, .inr (11, mF a 0 0 1000 0))] sz) := by
  refine Met.ofW (cc := cX12_map) (maxL := 5) (ret := (some .int)) (by decide) rfl ?_
  intro p e s m args below meth c s₁ B hml hv
  obtain ⟨rfl, hsz, hP, hK, hD0⟩ := hv
  have hx := B.exec
  have hb := B.bytes
  have hr := B.returns
  have hts := atoms_spec (ws := wsX12_map) B.pre
  have hown : s.vm.findClass RX12 = some m.cls := findClass_of_methodNamed B.named
  have hlocks := B.notSynchronized
  subst hsz
  have hD := hD0.self (sz := s.heap.size)
  generalize hAe : va_A [(g0, .inr (11, mF a 0 0 1000 0))] s.heap.size = A at hD ⊢
  have hA : ∀ q : Nat, s.heap.size ≤ q → A q := fun q h => by rw [← hAe]; exact Or.inr h
  generalize hH : s.heap = H at hP ⊢
  have hS : va_S A s.heap H [] := by rw [← hH]; exact va_S.rf
  have hl := lv_entry [.ref g0, .int p0, .int p1, .long p2] (n := 5) (Nat.le_of_ble_eq_true rfl)
  rw [lg_entry_eq]
  generalize (lg_sl [.ref g0, .int p0, .int p1, .long p2] ++ List.replicate (5 - (lg_sl [.ref g0, .int p0, .int p1, .long p2]).length) Slot.unset).toArray = ls at hl ⊢
  have hl : lv_has ls 5 [(0, .ref g0), (1, .int p0), (2, .int p1), (3, .long p2)] := hl
  have hP : va_P (dC, dI) vwCl [(g0, .inr (11, mF a 0 0 1000 0))] H := hP
  refine lv_aload_n hx hb dX12_map_0 rfl (lv_at hl 0 rfl) ?_
  refine lv_iconst (v := 0) hx hb dX12_map_1 (by decide) ?_
  refine va_put (D := (dC, dI)) (ci := 11) (v := .int 0) (ty := .int) (C := RX12) (T := TX12) (N := 32) hx hb hts (by decide +kernel) tyX12 tyX12_ok nmX12 hown hK hP hD hS 0 rfl rfl 19 (by decide) (hts (.fieldLink RX12 63 "NeededListsModel" "thrown" "I") (by decide +kernel)) (fun _ h9 => h9) rfl (by decide +kernel) rfl rfl (Nat.le_of_ble_eq_true rfl) dX12_map_2 (fun H locs hP hD hS => ?_)
  have hP : va_P (dC, dI) vwCl [(g0, .inr (11, mF a 0 0 1000 0))] H := hP
  have hD : va_D A [(g0, .inr (11, mF a 0 0 1000 0))] := hD
  refine lv_aload_n hx hb dX12_map_5 rfl (lv_at hl 0 rfl) ?_
  refine lv_iload_n hx hb dX12_map_6 rfl (lv_at hl 1 rfl) ?_
  have hPc := hP.sub (ws' := [(g0, .inr (11, mF a 0 0 1000 0))]) [0] rfl
  have hDc : va_D (fun _ => True) ([] : va_W) := nd_0
  have hKc := hK.sub (tys' := []) [] rfl
  have hFc := va_free (wc := []) hD hS hA [] rfl
  refine va_calli (va_runV (As := [.int p0]) (rest := []) ⟨hx, hb, hml, hown, hts⟩ (c_X12_isList l dC dI a g0 0 1000 0 p0 H.size) (cwV 1 hts gX12_map_X12_isList rfl rfl rfl (by decide +kernel) ⟨Nat.le_of_ble_eq_true rfl, Nat.le_of_ble_eq_true rfl⟩) ⟨fun a U g mk q => by obtain ⟨q0, q1, qP, qK, qD⟩ := q; exact ⟨q0, q1, qP, va_K.moved (u := U) (U := U.calling g mk a) (Vm.Alike.refl U.vm) qK, qD⟩, va_recv hKc hPc (ci := 11) (q0 := 0) rfl rfl, fun U hU hW => ⟨rfl, by rw [hU], by rw [hU]; exact hPc, va_K.moved hW.alike hKc, hDc.weaken (fun _ _ _ _ => trivial)⟩⟩ rfl rfl hl.1 rfl (lv_room (Nat.le_of_ble_eq_true rfl)) dX12_map_7 ⟨Nat.le_of_ble_eq_true rfl, Nat.le_of_ble_eq_true rfl⟩) hS (fun q _ h => hFc q h) hFc (fun r_1 u_2 t H1 locs ht hvm hw hB hz1 hk1 hS => ?_)
  have hP := nd_keep hP hk1
  generalize H1 = H at hP hS ⊢
  have hP : va_P (dC, dI) vwCl [(g0, .inr (11, mF a 0 0 1000 0))] H := hP
  have hD : va_D A [(g0, .inr (11, mF a 0 0 1000 0))] := hD
  refine W.widen (k := 0) (n := 0) (Nat.le_of_ble_eq_true rfl) (Nat.le_of_ble_eq_true rfl) ?_
  obtain rfl : r_1 = 0 := hw
  refine lv_if_ne (tgt := 19) hx hb dX12_map_10 (by decide) (fun c_10 => ?_) (fun c_10 => ?_)
  · exact absurd c_10 (by decide)
  · refine lv_aload_n hx hb dX12_map_13 rfl (lv_at hl 0 rfl) ?_
    refine lv_iconst (v := 1) hx hb dX12_map_14 (by decide) ?_
    have hPc := hP.sub (ws' := [(g0, .inr (11, mF a 0 0 1000 0))]) [0] rfl
    have hDc := hD.sub (ws' := [(g0, .inr (11, mF a 0 0 1000 0))]) [0] (by decide) rfl
    have hKc := hK.sub (tys' := []) [] rfl
    have hFc := va_free (wc := [(g0, .inr (11, mF a 0 0 1000 0))]) hD hS hA [0] rfl
    refine va_calli (va_runV (As := [.int 1]) (rest := []) ⟨hx, hb, hml, hown, hts⟩ (c_X12_fail l dC dI a g0 0 0 1000 0 1 H.size) (cwV 1 hts gX12_map_X12_fail rfl rfl rfl (by decide +kernel) ⟨Nat.le_of_ble_eq_true rfl, Nat.le_of_ble_eq_true rfl⟩) ⟨fun a U g mk q => by obtain ⟨q0, q1, qP, qK, qD⟩ := q; exact ⟨q0, q1, qP, va_K.moved (u := U) (U := U.calling g mk a) (Vm.Alike.refl U.vm) qK, qD⟩, va_recv hKc hPc (ci := 11) (q0 := 0) rfl rfl, fun U hU hW => ⟨rfl, by rw [hU], by rw [hU]; exact hPc, va_K.moved hW.alike hKc, hDc.weaken (fun _ _ _ _ => trivial)⟩⟩ rfl rfl hl.1 rfl (lv_room (Nat.le_of_ble_eq_true rfl)) dX12_map_15 ⟨Nat.le_of_ble_eq_true rfl, Nat.le_of_ble_eq_true rfl⟩) hS (fun q _ h => hFc q h) hFc (fun r_3 u_4 t H1 locs ht hvm hw hB hz1 hk1 hS => ?_)
    obtain ⟨hP1, hK1, hD1⟩ := hB
    rw [ht] at hP1
    have hK1 := va_K.moved hvm.symm hK1
    have hK := hK.app hK1
    obtain ⟨hP, hD⟩ := va_join (wr := []) (w1 := [(g0, .inr (11, mF a 0 0 1000 1))]) hP hD [0] [] rfl rfl (by decide) (by decide) hk1 hFc hP1 hD1
    generalize H1 = H at hP hS ⊢
    have hP : va_P (dC, dI) vwCl [(g0, .inr (11, mF a 0 0 1000 1))] H := hP
    have hD : va_D A [(g0, .inr (11, mF a 0 0 1000 1))] := hD
    have hK : va_K (dC, dI) vwCl [] s := hK
    refine W.widen (k := 0) (n := 0) (Nat.le_of_ble_eq_true rfl) (Nat.le_of_ble_eq_true rfl) ?_
    obtain rfl : r_3 = 0 := hw
    refine W.widen (k := 0) (n := 0) (Nat.le_of_ble_eq_true rfl) (Nat.le_of_ble_eq_true rfl) ?_
    have hP9 := hP.sub (ws' := [(g0, .inr (11, mF a 0 0 1000 1))]) [0] rfl
    have hD9 := hD.sub (ws' := [(g0, .inr (11, mF a 0 0 1000 1))]) [0] (by decide) rfl
    have hK9 := hK.sub (tys' := []) [] rfl
    exact W.iret (v := 0) hx hb hr (fun t ht hW => ⟨⟨0, (0, 0, 1000, 1), rfl, rfl, by rw [ht]; exact hP9, va_K.moved hW.alike hK9, hD9⟩, hS.F ht⟩) hS.2.2 dX12_map_18
set_option maxHeartbeats 4000000 in
set_option maxRecDepth 100000 in
theorem c_X12_both (l : Launch) (dC : Nat → ClassId) (dI : Nat → Nat → Nat) (a : Nat → Nat) (g0 : Nat) (p0 : Int32) (p1 : Int32) (p2 : Int32) (sz : Nat) : Met l yX12_both wsX12_both ({ frames := 20, cells := 0, slots := 0, locals := 600 }) (va_Pc [.ref g0, .int p0, .int p1, .int p2] (fun U => U.heap.size = sz ∧ va_P (dC, dI) vwCl [(g0, .inr (11, mF a 0 0 1000 0))] U.heap ∧ va_K (dC, dI) vwCl [] U ∧ va_D (fun _ => True) [(g0, .inr (11, mF a 0 0 1000 0))])) (va_Qi (fun (r : Int32) (u : Int32 × Int32 × Int32 × Int32) => u.2.2.2 = 1) (fun (u : Int32 × Int32 × Int32 × Int32) (t : State) => va_P (dC, dI) vwCl [(g0, .inr (11, mF a u.1 u.2.1 u.2.2.1 u.2.2.2))] t.heap ∧ va_K (dC, dI) vwCl [] t ∧ va_D (va_A [(g0, .inr (11, mF a 0 0 1000 0))] sz) [(g0, .inr (11, mF a u.1 u.2.1 u.2.2.1 u.2.2.2))]) (va_A [(g0, .inr (11, mF a 0 0 1000 0))] sz)) 0 0 (va_A [(g0, .inr (11, mF a 0 0 1000 0))] sz) := by
  refine Met.ofW (cc := cX12_both) (maxL := 4) (ret := (some .int)) (by decide) rfl ?_
  intro p e s m args below meth c s₁ B hml hv
  obtain ⟨rfl, hsz, hP, hK, hD0⟩ := hv
  have hx := B.exec
  have hb := B.bytes
  have hr := B.returns
  have hts := atoms_spec (ws := wsX12_both) B.pre
  have hown : s.vm.findClass RX12 = some m.cls := findClass_of_methodNamed B.named
  have hlocks := B.notSynchronized
  subst hsz
  have hD := hD0.self (sz := s.heap.size)
  generalize hAe : va_A [(g0, .inr (11, mF a 0 0 1000 0))] s.heap.size = A at hD ⊢
  have hA : ∀ q : Nat, s.heap.size ≤ q → A q := fun q h => by rw [← hAe]; exact Or.inr h
  generalize hH : s.heap = H at hP ⊢
  have hS : va_S A s.heap H [] := by rw [← hH]; exact va_S.rf
  have hl := lv_entry [.ref g0, .int p0, .int p1, .int p2] (n := 4) (Nat.le_of_ble_eq_true rfl)
  rw [lg_entry_eq]
  generalize (lg_sl [.ref g0, .int p0, .int p1, .int p2] ++ List.replicate (4 - (lg_sl [.ref g0, .int p0, .int p1, .int p2]).length) Slot.unset).toArray = ls at hl ⊢
  have hl : lv_has ls 4 [(0, .ref g0), (1, .int p0), (2, .int p1), (3, .int p2)] := hl
  have hP : va_P (dC, dI) vwCl [(g0, .inr (11, mF a 0 0 1000 0))] H := hP
  refine lv_aload_n hx hb dX12_both_0 rfl (lv_at hl 0 rfl) ?_
  refine lv_iconst (v := 0) hx hb dX12_both_1 (by decide) ?_
  refine va_put (D := (dC, dI)) (ci := 11) (v := .int 0) (ty := .int) (C := RX12) (T := TX12) (N := 32) hx hb hts (by decide +kernel) tyX12 tyX12_ok nmX12 hown hK hP hD hS 0 rfl rfl 19 (by decide) (hts (.fieldLink RX12 63 "NeededListsModel" "thrown" "I") (by decide +kernel)) (fun _ h9 => h9) rfl (by decide +kernel) rfl rfl (Nat.le_of_ble_eq_true rfl) dX12_both_2 (fun H locs hP hD hS => ?_)
  have hP : va_P (dC, dI) vwCl [(g0, .inr (11, mF a 0 0 1000 0))] H := hP
  have hD : va_D A [(g0, .inr (11, mF a 0 0 1000 0))] := hD
  refine lv_aload_n hx hb dX12_both_5 rfl (lv_at hl 0 rfl) ?_
  refine lv_iload_n hx hb dX12_both_6 rfl (lv_at hl 1 rfl) ?_
  have hPc := hP.sub (ws' := [(g0, .inr (11, mF a 0 0 1000 0))]) [0] rfl
  have hDc : va_D (fun _ => True) ([] : va_W) := nd_0
  have hKc := hK.sub (tys' := []) [] rfl
  have hFc := va_free (wc := []) hD hS hA [] rfl
  refine va_calli (va_runV (As := [.int p0]) (rest := []) ⟨hx, hb, hml, hown, hts⟩ (c_X12_isList l dC dI a g0 0 1000 0 p0 H.size) (cwV 1 hts gX12_both_X12_isList rfl rfl rfl (by decide +kernel) ⟨Nat.le_of_ble_eq_true rfl, Nat.le_of_ble_eq_true rfl⟩) ⟨fun a U g mk q => by obtain ⟨q0, q1, qP, qK, qD⟩ := q; exact ⟨q0, q1, qP, va_K.moved (u := U) (U := U.calling g mk a) (Vm.Alike.refl U.vm) qK, qD⟩, va_recv hKc hPc (ci := 11) (q0 := 0) rfl rfl, fun U hU hW => ⟨rfl, by rw [hU], by rw [hU]; exact hPc, va_K.moved hW.alike hKc, hDc.weaken (fun _ _ _ _ => trivial)⟩⟩ rfl rfl hl.1 rfl (lv_room (Nat.le_of_ble_eq_true rfl)) dX12_both_7 ⟨Nat.le_of_ble_eq_true rfl, Nat.le_of_ble_eq_true rfl⟩) hS (fun q _ h => hFc q h) hFc (fun r_1 u_2 t H1 locs ht hvm hw hB hz1 hk1 hS => ?_)
  have hP := nd_keep hP hk1
  generalize H1 = H at hP hS ⊢
  have hP : va_P (dC, dI) vwCl [(g0, .inr (11, mF a 0 0 1000 0))] H := hP
  have hD : va_D A [(g0, .inr (11, mF a 0 0 1000 0))] := hD
  refine W.widen (k := 0) (n := 0) (Nat.le_of_ble_eq_true rfl) (Nat.le_of_ble_eq_true rfl) ?_
  obtain rfl : r_1 = 0 := hw
  refine lv_if_eq (tgt := 21) hx hb dX12_both_10 (by decide) (fun c_10 => ?_) (fun c_10 => ?_)
  · refine lv_aload_n hx hb dX12_both_21 rfl (lv_at hl 0 rfl) ?_
    refine lv_iconst (v := 1) hx hb dX12_both_22 (by decide) ?_
    have hPc := hP.sub (ws' := [(g0, .inr (11, mF a 0 0 1000 0))]) [0] rfl
    have hDc := hD.sub (ws' := [(g0, .inr (11, mF a 0 0 1000 0))]) [0] (by decide) rfl
    have hKc := hK.sub (tys' := []) [] rfl
    have hFc := va_free (wc := [(g0, .inr (11, mF a 0 0 1000 0))]) hD hS hA [0] rfl
    refine va_calli (va_runV (As := [.int 1]) (rest := []) ⟨hx, hb, hml, hown, hts⟩ (c_X12_fail l dC dI a g0 0 0 1000 0 1 H.size) (cwV 1 hts gX12_both_X12_fail rfl rfl rfl (by decide +kernel) ⟨Nat.le_of_ble_eq_true rfl, Nat.le_of_ble_eq_true rfl⟩) ⟨fun a U g mk q => by obtain ⟨q0, q1, qP, qK, qD⟩ := q; exact ⟨q0, q1, qP, va_K.moved (u := U) (U := U.calling g mk a) (Vm.Alike.refl U.vm) qK, qD⟩, va_recv hKc hPc (ci := 11) (q0 := 0) rfl rfl, fun U hU hW => ⟨rfl, by rw [hU], by rw [hU]; exact hPc, va_K.moved hW.alike hKc, hDc.weaken (fun _ _ _ _ => trivial)⟩⟩ rfl rfl hl.1 rfl (lv_room (Nat.le_of_ble_eq_true rfl)) dX12_both_23 ⟨Nat.le_of_ble_eq_true rfl, Nat.le_of_ble_eq_true rfl⟩) hS (fun q _ h => hFc q h) hFc (fun r_3 u_4 t H1 locs ht hvm hw hB hz1 hk1 hS => ?_)
    obtain ⟨hP1, hK1, hD1⟩ := hB
    rw [ht] at hP1
    have hK1 := va_K.moved hvm.symm hK1
    have hK := hK.app hK1
    obtain ⟨hP, hD⟩ := va_join (wr := []) (w1 := [(g0, .inr (11, mF a 0 0 1000 1))]) hP hD [0] [] rfl rfl (by decide) (by decide) hk1 hFc hP1 hD1
    generalize H1 = H at hP hS ⊢
    have hP : va_P (dC, dI) vwCl [(g0, .inr (11, mF a 0 0 1000 1))] H := hP
    have hD : va_D A [(g0, .inr (11, mF a 0 0 1000 1))] := hD
    have hK : va_K (dC, dI) vwCl [] s := hK
    refine W.widen (k := 0) (n := 0) (Nat.le_of_ble_eq_true rfl) (Nat.le_of_ble_eq_true rfl) ?_
    obtain rfl : r_3 = 0 := hw
    refine W.widen (k := 0) (n := 0) (Nat.le_of_ble_eq_true rfl) (Nat.le_of_ble_eq_true rfl) ?_
    have hP9 := hP.sub (ws' := [(g0, .inr (11, mF a 0 0 1000 1))]) [0] rfl
    have hD9 := hD.sub (ws' := [(g0, .inr (11, mF a 0 0 1000 1))]) [0] (by decide) rfl
    have hK9 := hK.sub (tys' := []) [] rfl
    exact W.iret (v := 0) hx hb hr (fun t ht hW => ⟨⟨0, (0, 0, 1000, 1), rfl, rfl, by rw [ht]; exact hP9, va_K.moved hW.alike hK9, hD9⟩, hS.F ht⟩) hS.2.2 dX12_both_26
  · exact absurd c_10 (by decide)
set_option maxHeartbeats 4000000 in
set_option maxRecDepth 100000 in
theorem c_X12_scan (l : Launch) (dC : Nat → ClassId) (dI : Nat → Nat → Nat) (a : Nat → Nat) (g0 : Nat) (p0 : Int32) (p1 : Int32) (p2 : Int64) (sz : Nat) : Met l yX12_scan wsX12_scan ({ frames := 20, cells := 0, slots := 0, locals := 600 }) (va_Pc [.ref g0, .int p0, .int p1, .long p2] (fun U => U.heap.size = sz ∧ va_P (dC, dI) vwCl [(g0, .inr (11, mF a 0 0 1000 0))] U.heap ∧ va_K (dC, dI) vwCl [] U ∧ va_D (fun _ => True) [(g0, .inr (11, mF a 0 0 1000 0))])) (va_Qi (fun (r : Int32) (u : Int32 × Int32 × Int32 × Int32) => u.2.2.2 = 1) (fun (u : Int32 × Int32 × Int32 × Int32) (t : State) => va_P (dC, dI) vwCl [(g0, .inr (11, mF a u.1 u.2.1 u.2.2.1 u.2.2.2))] t.heap ∧ va_K (dC, dI) vwCl [] t ∧ va_D (va_A [(g0, .inr (11, mF a 0 0 1000 0))] sz) [(g0, .inr (11, mF a u.1 u.2.1 u.2.2.1 u.2.2.2))]) (va_A [(g0, .inr (11, mF a 0 0 1000 0))] sz)) 0 0 (va_A [(g0, .inr (11, mF a 0 0 1000 0))] sz) := by
  refine Met.ofW (cc := cX12_scan) (maxL := 5) (ret := (some .int)) (by decide) rfl ?_
  intro p e s m args below meth c s₁ B hml hv
  obtain ⟨rfl, hsz, hP, hK, hD0⟩ := hv
  have hx := B.exec
  have hb := B.bytes
  have hr := B.returns
  have hts := atoms_spec (ws := wsX12_scan) B.pre
  have hown : s.vm.findClass RX12 = some m.cls := findClass_of_methodNamed B.named
  have hlocks := B.notSynchronized
  subst hsz
  have hD := hD0.self (sz := s.heap.size)
  generalize hAe : va_A [(g0, .inr (11, mF a 0 0 1000 0))] s.heap.size = A at hD ⊢
  have hA : ∀ q : Nat, s.heap.size ≤ q → A q := fun q h => by rw [← hAe]; exact Or.inr h
  generalize hH : s.heap = H at hP ⊢
  have hS : va_S A s.heap H [] := by rw [← hH]; exact va_S.rf
  have hl := lv_entry [.ref g0, .int p0, .int p1, .long p2] (n := 5) (Nat.le_of_ble_eq_true rfl)
  rw [lg_entry_eq]
  generalize (lg_sl [.ref g0, .int p0, .int p1, .long p2] ++ List.replicate (5 - (lg_sl [.ref g0, .int p0, .int p1, .long p2]).length) Slot.unset).toArray = ls at hl ⊢
  have hl : lv_has ls 5 [(0, .ref g0), (1, .int p0), (2, .int p1), (3, .long p2)] := hl
  have hP : va_P (dC, dI) vwCl [(g0, .inr (11, mF a 0 0 1000 0))] H := hP
  refine lv_aload_n hx hb dX12_scan_0 rfl (lv_at hl 0 rfl) ?_
  refine lv_iconst (v := 0) hx hb dX12_scan_1 (by decide) ?_
  refine va_put (D := (dC, dI)) (ci := 11) (v := .int 0) (ty := .int) (C := RX12) (T := TX12) (N := 32) hx hb hts (by decide +kernel) tyX12 tyX12_ok nmX12 hown hK hP hD hS 0 rfl rfl 19 (by decide) (hts (.fieldLink RX12 63 "NeededListsModel" "thrown" "I") (by decide +kernel)) (fun _ h9 => h9) rfl (by decide +kernel) rfl rfl (Nat.le_of_ble_eq_true rfl) dX12_scan_2 (fun H locs hP hD hS => ?_)
  have hP : va_P (dC, dI) vwCl [(g0, .inr (11, mF a 0 0 1000 0))] H := hP
  have hD : va_D A [(g0, .inr (11, mF a 0 0 1000 0))] := hD
  refine lv_aload_n hx hb dX12_scan_5 rfl (lv_at hl 0 rfl) ?_
  refine lv_iload_n hx hb dX12_scan_6 rfl (lv_at hl 1 rfl) ?_
  have hPc := hP.sub (ws' := [(g0, .inr (11, mF a 0 0 1000 0))]) [0] rfl
  have hDc : va_D (fun _ => True) ([] : va_W) := nd_0
  have hKc := hK.sub (tys' := []) [] rfl
  have hFc := va_free (wc := []) hD hS hA [] rfl
  refine va_calli (va_runV (As := [.int p0]) (rest := []) ⟨hx, hb, hml, hown, hts⟩ (c_X12_isList l dC dI a g0 0 1000 0 p0 H.size) (cwV 1 hts gX12_scan_X12_isList rfl rfl rfl (by decide +kernel) ⟨Nat.le_of_ble_eq_true rfl, Nat.le_of_ble_eq_true rfl⟩) ⟨fun a U g mk q => by obtain ⟨q0, q1, qP, qK, qD⟩ := q; exact ⟨q0, q1, qP, va_K.moved (u := U) (U := U.calling g mk a) (Vm.Alike.refl U.vm) qK, qD⟩, va_recv hKc hPc (ci := 11) (q0 := 0) rfl rfl, fun U hU hW => ⟨rfl, by rw [hU], by rw [hU]; exact hPc, va_K.moved hW.alike hKc, hDc.weaken (fun _ _ _ _ => trivial)⟩⟩ rfl rfl hl.1 rfl (lv_room (Nat.le_of_ble_eq_true rfl)) dX12_scan_7 ⟨Nat.le_of_ble_eq_true rfl, Nat.le_of_ble_eq_true rfl⟩) hS (fun q _ h => hFc q h) hFc (fun r_1 u_2 t H1 locs ht hvm hw hB hz1 hk1 hS => ?_)
  have hP := nd_keep hP hk1
  generalize H1 = H at hP hS ⊢
  have hP : va_P (dC, dI) vwCl [(g0, .inr (11, mF a 0 0 1000 0))] H := hP
  have hD : va_D A [(g0, .inr (11, mF a 0 0 1000 0))] := hD
  refine W.widen (k := 0) (n := 0) (Nat.le_of_ble_eq_true rfl) (Nat.le_of_ble_eq_true rfl) ?_
  obtain rfl : r_1 = 0 := hw
  refine lv_if_ne (tgt := 19) hx hb dX12_scan_10 (by decide) (fun c_10 => ?_) (fun c_10 => ?_)
  · exact absurd c_10 (by decide)
  · refine lv_aload_n hx hb dX12_scan_13 rfl (lv_at hl 0 rfl) ?_
    refine lv_iconst (v := 1) hx hb dX12_scan_14 (by decide) ?_
    have hPc := hP.sub (ws' := [(g0, .inr (11, mF a 0 0 1000 0))]) [0] rfl
    have hDc := hD.sub (ws' := [(g0, .inr (11, mF a 0 0 1000 0))]) [0] (by decide) rfl
    have hKc := hK.sub (tys' := []) [] rfl
    have hFc := va_free (wc := [(g0, .inr (11, mF a 0 0 1000 0))]) hD hS hA [0] rfl
    refine va_calli (va_runV (As := [.int 1]) (rest := []) ⟨hx, hb, hml, hown, hts⟩ (c_X12_fail l dC dI a g0 0 0 1000 0 1 H.size) (cwV 1 hts gX12_scan_X12_fail rfl rfl rfl (by decide +kernel) ⟨Nat.le_of_ble_eq_true rfl, Nat.le_of_ble_eq_true rfl⟩) ⟨fun a U g mk q => by obtain ⟨q0, q1, qP, qK, qD⟩ := q; exact ⟨q0, q1, qP, va_K.moved (u := U) (U := U.calling g mk a) (Vm.Alike.refl U.vm) qK, qD⟩, va_recv hKc hPc (ci := 11) (q0 := 0) rfl rfl, fun U hU hW => ⟨rfl, by rw [hU], by rw [hU]; exact hPc, va_K.moved hW.alike hKc, hDc.weaken (fun _ _ _ _ => trivial)⟩⟩ rfl rfl hl.1 rfl (lv_room (Nat.le_of_ble_eq_true rfl)) dX12_scan_15 ⟨Nat.le_of_ble_eq_true rfl, Nat.le_of_ble_eq_true rfl⟩) hS (fun q _ h => hFc q h) hFc (fun r_3 u_4 t H1 locs ht hvm hw hB hz1 hk1 hS => ?_)
    obtain ⟨hP1, hK1, hD1⟩ := hB
    rw [ht] at hP1
    have hK1 := va_K.moved hvm.symm hK1
    have hK := hK.app hK1
    obtain ⟨hP, hD⟩ := va_join (wr := []) (w1 := [(g0, .inr (11, mF a 0 0 1000 1))]) hP hD [0] [] rfl rfl (by decide) (by decide) hk1 hFc hP1 hD1
    generalize H1 = H at hP hS ⊢
    have hP : va_P (dC, dI) vwCl [(g0, .inr (11, mF a 0 0 1000 1))] H := hP
    have hD : va_D A [(g0, .inr (11, mF a 0 0 1000 1))] := hD
    have hK : va_K (dC, dI) vwCl [] s := hK
    refine W.widen (k := 0) (n := 0) (Nat.le_of_ble_eq_true rfl) (Nat.le_of_ble_eq_true rfl) ?_
    obtain rfl : r_3 = 0 := hw
    refine W.widen (k := 0) (n := 0) (Nat.le_of_ble_eq_true rfl) (Nat.le_of_ble_eq_true rfl) ?_
    have hP9 := hP.sub (ws' := [(g0, .inr (11, mF a 0 0 1000 1))]) [0] rfl
    have hD9 := hD.sub (ws' := [(g0, .inr (11, mF a 0 0 1000 1))]) [0] (by decide) rfl
    have hK9 := hK.sub (tys' := []) [] rfl
    exact W.iret (v := 0) hx hb hr (fun t ht hW => ⟨⟨0, (0, 0, 1000, 1), rfl, rfl, by rw [ht]; exact hP9, va_K.moved hW.alike hK9, hD9⟩, hS.F ht⟩) hS.2.2 dX12_scan_18
set_option maxHeartbeats 4000000 in
set_option maxRecDepth 100000 in
theorem c_X12_join (l : Launch) (dC : Nat → ClassId) (dI : Nat → Nat → Nat) (a : Nat → Nat) (g0 : Nat) (p0 : Int32) (p1 : Int32) (sz : Nat) : Met l yX12_join wsX12_join ({ frames := 20, cells := 0, slots := 0, locals := 600 }) (va_Pc [.ref g0, .int p0, .int p1] (fun U => U.heap.size = sz ∧ va_P (dC, dI) vwCl [(g0, .inr (11, mF a 0 0 1000 0))] U.heap ∧ va_K (dC, dI) vwCl [] U ∧ va_D (fun _ => True) [(g0, .inr (11, mF a 0 0 1000 0))])) (va_Qi (fun (r : Int32) (u : Int32 × Int32 × Int32 × Int32) => u.2.2.2 = 1) (fun (u : Int32 × Int32 × Int32 × Int32) (t : State) => va_P (dC, dI) vwCl [(g0, .inr (11, mF a u.1 u.2.1 u.2.2.1 u.2.2.2))] t.heap ∧ va_K (dC, dI) vwCl [] t ∧ va_D (va_A [(g0, .inr (11, mF a 0 0 1000 0))] sz) [(g0, .inr (11, mF a u.1 u.2.1 u.2.2.1 u.2.2.2))]) (va_A [(g0, .inr (11, mF a 0 0 1000 0))] sz)) 0 0 (va_A [(g0, .inr (11, mF a 0 0 1000 0))] sz) := by
  refine Met.ofW (cc := cX12_join) (maxL := 3) (ret := (some .int)) (by decide) rfl ?_
  intro p e s m args below meth c s₁ B hml hv
  obtain ⟨rfl, hsz, hP, hK, hD0⟩ := hv
  have hx := B.exec
  have hb := B.bytes
  have hr := B.returns
  have hts := atoms_spec (ws := wsX12_join) B.pre
  have hown : s.vm.findClass RX12 = some m.cls := findClass_of_methodNamed B.named
  have hlocks := B.notSynchronized
  subst hsz
  have hD := hD0.self (sz := s.heap.size)
  generalize hAe : va_A [(g0, .inr (11, mF a 0 0 1000 0))] s.heap.size = A at hD ⊢
  have hA : ∀ q : Nat, s.heap.size ≤ q → A q := fun q h => by rw [← hAe]; exact Or.inr h
  generalize hH : s.heap = H at hP ⊢
  have hS : va_S A s.heap H [] := by rw [← hH]; exact va_S.rf
  have hl := lv_entry [.ref g0, .int p0, .int p1] (n := 3) (Nat.le_of_ble_eq_true rfl)
  rw [lg_entry_eq]
  generalize (lg_sl [.ref g0, .int p0, .int p1] ++ List.replicate (3 - (lg_sl [.ref g0, .int p0, .int p1]).length) Slot.unset).toArray = ls at hl ⊢
  have hl : lv_has ls 3 [(0, .ref g0), (1, .int p0), (2, .int p1)] := hl
  have hP : va_P (dC, dI) vwCl [(g0, .inr (11, mF a 0 0 1000 0))] H := hP
  refine lv_aload_n hx hb dX12_join_0 rfl (lv_at hl 0 rfl) ?_
  refine lv_iconst (v := 0) hx hb dX12_join_1 (by decide) ?_
  refine va_put (D := (dC, dI)) (ci := 11) (v := .int 0) (ty := .int) (C := RX12) (T := TX12) (N := 32) hx hb hts (by decide +kernel) tyX12 tyX12_ok nmX12 hown hK hP hD hS 0 rfl rfl 19 (by decide) (hts (.fieldLink RX12 63 "NeededListsModel" "thrown" "I") (by decide +kernel)) (fun _ h9 => h9) rfl (by decide +kernel) rfl rfl (Nat.le_of_ble_eq_true rfl) dX12_join_2 (fun H locs hP hD hS => ?_)
  have hP : va_P (dC, dI) vwCl [(g0, .inr (11, mF a 0 0 1000 0))] H := hP
  have hD : va_D A [(g0, .inr (11, mF a 0 0 1000 0))] := hD
  refine lv_aload_n hx hb dX12_join_5 rfl (lv_at hl 0 rfl) ?_
  refine lv_iload_n hx hb dX12_join_6 rfl (lv_at hl 1 rfl) ?_
  have hPc := hP.sub (ws' := [(g0, .inr (11, mF a 0 0 1000 0))]) [0] rfl
  have hDc : va_D (fun _ => True) ([] : va_W) := nd_0
  have hKc := hK.sub (tys' := []) [] rfl
  have hFc := va_free (wc := []) hD hS hA [] rfl
  refine va_calli (va_runV (As := [.int p0]) (rest := []) ⟨hx, hb, hml, hown, hts⟩ (c_X12_isList l dC dI a g0 0 1000 0 p0 H.size) (cwV 1 hts gX12_join_X12_isList rfl rfl rfl (by decide +kernel) ⟨Nat.le_of_ble_eq_true rfl, Nat.le_of_ble_eq_true rfl⟩) ⟨fun a U g mk q => by obtain ⟨q0, q1, qP, qK, qD⟩ := q; exact ⟨q0, q1, qP, va_K.moved (u := U) (U := U.calling g mk a) (Vm.Alike.refl U.vm) qK, qD⟩, va_recv hKc hPc (ci := 11) (q0 := 0) rfl rfl, fun U hU hW => ⟨rfl, by rw [hU], by rw [hU]; exact hPc, va_K.moved hW.alike hKc, hDc.weaken (fun _ _ _ _ => trivial)⟩⟩ rfl rfl hl.1 rfl (lv_room (Nat.le_of_ble_eq_true rfl)) dX12_join_7 ⟨Nat.le_of_ble_eq_true rfl, Nat.le_of_ble_eq_true rfl⟩) hS (fun q _ h => hFc q h) hFc (fun r_1 u_2 t H1 locs ht hvm hw hB hz1 hk1 hS => ?_)
  have hP := nd_keep hP hk1
  generalize H1 = H at hP hS ⊢
  have hP : va_P (dC, dI) vwCl [(g0, .inr (11, mF a 0 0 1000 0))] H := hP
  have hD : va_D A [(g0, .inr (11, mF a 0 0 1000 0))] := hD
  refine W.widen (k := 0) (n := 0) (Nat.le_of_ble_eq_true rfl) (Nat.le_of_ble_eq_true rfl) ?_
  obtain rfl : r_1 = 0 := hw
  refine lv_if_eq (tgt := 21) hx hb dX12_join_10 (by decide) (fun c_10 => ?_) (fun c_10 => ?_)
  · refine lv_aload_n hx hb dX12_join_21 rfl (lv_at hl 0 rfl) ?_
    refine lv_iconst (v := 1) hx hb dX12_join_22 (by decide) ?_
    have hPc := hP.sub (ws' := [(g0, .inr (11, mF a 0 0 1000 0))]) [0] rfl
    have hDc := hD.sub (ws' := [(g0, .inr (11, mF a 0 0 1000 0))]) [0] (by decide) rfl
    have hKc := hK.sub (tys' := []) [] rfl
    have hFc := va_free (wc := [(g0, .inr (11, mF a 0 0 1000 0))]) hD hS hA [0] rfl
    refine va_calli (va_runV (As := [.int 1]) (rest := []) ⟨hx, hb, hml, hown, hts⟩ (c_X12_fail l dC dI a g0 0 0 1000 0 1 H.size) (cwV 1 hts gX12_join_X12_fail rfl rfl rfl (by decide +kernel) ⟨Nat.le_of_ble_eq_true rfl, Nat.le_of_ble_eq_true rfl⟩) ⟨fun a U g mk q => by obtain ⟨q0, q1, qP, qK, qD⟩ := q; exact ⟨q0, q1, qP, va_K.moved (u := U) (U := U.calling g mk a) (Vm.Alike.refl U.vm) qK, qD⟩, va_recv hKc hPc (ci := 11) (q0 := 0) rfl rfl, fun U hU hW => ⟨rfl, by rw [hU], by rw [hU]; exact hPc, va_K.moved hW.alike hKc, hDc.weaken (fun _ _ _ _ => trivial)⟩⟩ rfl rfl hl.1 rfl (lv_room (Nat.le_of_ble_eq_true rfl)) dX12_join_23 ⟨Nat.le_of_ble_eq_true rfl, Nat.le_of_ble_eq_true rfl⟩) hS (fun q _ h => hFc q h) hFc (fun r_3 u_4 t H1 locs ht hvm hw hB hz1 hk1 hS => ?_)
    obtain ⟨hP1, hK1, hD1⟩ := hB
    rw [ht] at hP1
    have hK1 := va_K.moved hvm.symm hK1
    have hK := hK.app hK1
    obtain ⟨hP, hD⟩ := va_join (wr := []) (w1 := [(g0, .inr (11, mF a 0 0 1000 1))]) hP hD [0] [] rfl rfl (by decide) (by decide) hk1 hFc hP1 hD1
    generalize H1 = H at hP hS ⊢
    have hP : va_P (dC, dI) vwCl [(g0, .inr (11, mF a 0 0 1000 1))] H := hP
    have hD : va_D A [(g0, .inr (11, mF a 0 0 1000 1))] := hD
    have hK : va_K (dC, dI) vwCl [] s := hK
    refine W.widen (k := 0) (n := 0) (Nat.le_of_ble_eq_true rfl) (Nat.le_of_ble_eq_true rfl) ?_
    obtain rfl : r_3 = 0 := hw
    refine W.widen (k := 0) (n := 0) (Nat.le_of_ble_eq_true rfl) (Nat.le_of_ble_eq_true rfl) ?_
    have hP9 := hP.sub (ws' := [(g0, .inr (11, mF a 0 0 1000 1))]) [0] rfl
    have hD9 := hD.sub (ws' := [(g0, .inr (11, mF a 0 0 1000 1))]) [0] (by decide) rfl
    have hK9 := hK.sub (tys' := []) [] rfl
    exact W.iret (v := 0) hx hb hr (fun t ht hW => ⟨⟨0, (0, 0, 1000, 1), rfl, rfl, by rw [ht]; exact hP9, va_K.moved hW.alike hK9, hD9⟩, hS.F ht⟩) hS.2.2 dX12_join_26
  · exact absurd c_10 (by decide)
set_option maxHeartbeats 4000000 in
set_option maxRecDepth 100000 in
theorem c_X12_other (l : Launch) (dC : Nat → ClassId) (dI : Nat → Nat → Nat) (a : Nat → Nat) (g0 : Nat) (p0 : Int32) (p1 : Int32) (sz : Nat) : Met l yX12_other wsX12_other ({ frames := 20, cells := 0, slots := 0, locals := 600 }) (va_Pc [.ref g0, .int p0, .int p1] (fun U => U.heap.size = sz ∧ va_P (dC, dI) vwCl [(g0, .inr (11, mF a 0 0 1000 0))] U.heap ∧ va_K (dC, dI) vwCl [] U ∧ va_D (fun _ => True) [(g0, .inr (11, mF a 0 0 1000 0))])) (va_Qi (fun (r : Int32) (u : Int32 × Int32 × Int32 × Int32) => u.2.2.2 = 1) (fun (u : Int32 × Int32 × Int32 × Int32) (t : State) => va_P (dC, dI) vwCl [(g0, .inr (11, mF a u.1 u.2.1 u.2.2.1 u.2.2.2))] t.heap ∧ va_K (dC, dI) vwCl [] t ∧ va_D (va_A [(g0, .inr (11, mF a 0 0 1000 0))] sz) [(g0, .inr (11, mF a u.1 u.2.1 u.2.2.1 u.2.2.2))]) (va_A [(g0, .inr (11, mF a 0 0 1000 0))] sz)) 0 0 (va_A [(g0, .inr (11, mF a 0 0 1000 0))] sz) := by
  refine Met.ofW (cc := cX12_other) (maxL := 3) (ret := (some .int)) (by decide) rfl ?_
  intro p e s m args below meth c s₁ B hml hv
  obtain ⟨rfl, hsz, hP, hK, hD0⟩ := hv
  have hx := B.exec
  have hb := B.bytes
  have hr := B.returns
  have hts := atoms_spec (ws := wsX12_other) B.pre
  have hown : s.vm.findClass RX12 = some m.cls := findClass_of_methodNamed B.named
  have hlocks := B.notSynchronized
  subst hsz
  have hD := hD0.self (sz := s.heap.size)
  generalize hAe : va_A [(g0, .inr (11, mF a 0 0 1000 0))] s.heap.size = A at hD ⊢
  have hA : ∀ q : Nat, s.heap.size ≤ q → A q := fun q h => by rw [← hAe]; exact Or.inr h
  generalize hH : s.heap = H at hP ⊢
  have hS : va_S A s.heap H [] := by rw [← hH]; exact va_S.rf
  have hl := lv_entry [.ref g0, .int p0, .int p1] (n := 3) (Nat.le_of_ble_eq_true rfl)
  rw [lg_entry_eq]
  generalize (lg_sl [.ref g0, .int p0, .int p1] ++ List.replicate (3 - (lg_sl [.ref g0, .int p0, .int p1]).length) Slot.unset).toArray = ls at hl ⊢
  have hl : lv_has ls 3 [(0, .ref g0), (1, .int p0), (2, .int p1)] := hl
  have hP : va_P (dC, dI) vwCl [(g0, .inr (11, mF a 0 0 1000 0))] H := hP
  refine lv_aload_n hx hb dX12_other_0 rfl (lv_at hl 0 rfl) ?_
  refine lv_iconst (v := 0) hx hb dX12_other_1 (by decide) ?_
  refine va_put (D := (dC, dI)) (ci := 11) (v := .int 0) (ty := .int) (C := RX12) (T := TX12) (N := 32) hx hb hts (by decide +kernel) tyX12 tyX12_ok nmX12 hown hK hP hD hS 0 rfl rfl 19 (by decide) (hts (.fieldLink RX12 63 "NeededListsModel" "thrown" "I") (by decide +kernel)) (fun _ h9 => h9) rfl (by decide +kernel) rfl rfl (Nat.le_of_ble_eq_true rfl) dX12_other_2 (fun H locs hP hD hS => ?_)
  have hP : va_P (dC, dI) vwCl [(g0, .inr (11, mF a 0 0 1000 0))] H := hP
  have hD : va_D A [(g0, .inr (11, mF a 0 0 1000 0))] := hD
  refine lv_aload_n hx hb dX12_other_5 rfl (lv_at hl 0 rfl) ?_
  refine lv_iload_n hx hb dX12_other_6 rfl (lv_at hl 1 rfl) ?_
  have hPc := hP.sub (ws' := [(g0, .inr (11, mF a 0 0 1000 0))]) [0] rfl
  have hDc : va_D (fun _ => True) ([] : va_W) := nd_0
  have hKc := hK.sub (tys' := []) [] rfl
  have hFc := va_free (wc := []) hD hS hA [] rfl
  refine va_calli (va_runV (As := [.int p0]) (rest := []) ⟨hx, hb, hml, hown, hts⟩ (c_X12_isList l dC dI a g0 0 1000 0 p0 H.size) (cwV 1 hts gX12_other_X12_isList rfl rfl rfl (by decide +kernel) ⟨Nat.le_of_ble_eq_true rfl, Nat.le_of_ble_eq_true rfl⟩) ⟨fun a U g mk q => by obtain ⟨q0, q1, qP, qK, qD⟩ := q; exact ⟨q0, q1, qP, va_K.moved (u := U) (U := U.calling g mk a) (Vm.Alike.refl U.vm) qK, qD⟩, va_recv hKc hPc (ci := 11) (q0 := 0) rfl rfl, fun U hU hW => ⟨rfl, by rw [hU], by rw [hU]; exact hPc, va_K.moved hW.alike hKc, hDc.weaken (fun _ _ _ _ => trivial)⟩⟩ rfl rfl hl.1 rfl (lv_room (Nat.le_of_ble_eq_true rfl)) dX12_other_7 ⟨Nat.le_of_ble_eq_true rfl, Nat.le_of_ble_eq_true rfl⟩) hS (fun q _ h => hFc q h) hFc (fun r_1 u_2 t H1 locs ht hvm hw hB hz1 hk1 hS => ?_)
  have hP := nd_keep hP hk1
  generalize H1 = H at hP hS ⊢
  have hP : va_P (dC, dI) vwCl [(g0, .inr (11, mF a 0 0 1000 0))] H := hP
  have hD : va_D A [(g0, .inr (11, mF a 0 0 1000 0))] := hD
  refine W.widen (k := 0) (n := 0) (Nat.le_of_ble_eq_true rfl) (Nat.le_of_ble_eq_true rfl) ?_
  obtain rfl : r_1 = 0 := hw
  refine lv_if_ne (tgt := 19) hx hb dX12_other_10 (by decide) (fun c_10 => ?_) (fun c_10 => ?_)
  · exact absurd c_10 (by decide)
  · refine lv_aload_n hx hb dX12_other_13 rfl (lv_at hl 0 rfl) ?_
    refine lv_iconst (v := 1) hx hb dX12_other_14 (by decide) ?_
    have hPc := hP.sub (ws' := [(g0, .inr (11, mF a 0 0 1000 0))]) [0] rfl
    have hDc := hD.sub (ws' := [(g0, .inr (11, mF a 0 0 1000 0))]) [0] (by decide) rfl
    have hKc := hK.sub (tys' := []) [] rfl
    have hFc := va_free (wc := [(g0, .inr (11, mF a 0 0 1000 0))]) hD hS hA [0] rfl
    refine va_calli (va_runV (As := [.int 1]) (rest := []) ⟨hx, hb, hml, hown, hts⟩ (c_X12_fail l dC dI a g0 0 0 1000 0 1 H.size) (cwV 1 hts gX12_other_X12_fail rfl rfl rfl (by decide +kernel) ⟨Nat.le_of_ble_eq_true rfl, Nat.le_of_ble_eq_true rfl⟩) ⟨fun a U g mk q => by obtain ⟨q0, q1, qP, qK, qD⟩ := q; exact ⟨q0, q1, qP, va_K.moved (u := U) (U := U.calling g mk a) (Vm.Alike.refl U.vm) qK, qD⟩, va_recv hKc hPc (ci := 11) (q0 := 0) rfl rfl, fun U hU hW => ⟨rfl, by rw [hU], by rw [hU]; exact hPc, va_K.moved hW.alike hKc, hDc.weaken (fun _ _ _ _ => trivial)⟩⟩ rfl rfl hl.1 rfl (lv_room (Nat.le_of_ble_eq_true rfl)) dX12_other_15 ⟨Nat.le_of_ble_eq_true rfl, Nat.le_of_ble_eq_true rfl⟩) hS (fun q _ h => hFc q h) hFc (fun r_3 u_4 t H1 locs ht hvm hw hB hz1 hk1 hS => ?_)
    obtain ⟨hP1, hK1, hD1⟩ := hB
    rw [ht] at hP1
    have hK1 := va_K.moved hvm.symm hK1
    have hK := hK.app hK1
    obtain ⟨hP, hD⟩ := va_join (wr := []) (w1 := [(g0, .inr (11, mF a 0 0 1000 1))]) hP hD [0] [] rfl rfl (by decide) (by decide) hk1 hFc hP1 hD1
    generalize H1 = H at hP hS ⊢
    have hP : va_P (dC, dI) vwCl [(g0, .inr (11, mF a 0 0 1000 1))] H := hP
    have hD : va_D A [(g0, .inr (11, mF a 0 0 1000 1))] := hD
    have hK : va_K (dC, dI) vwCl [] s := hK
    refine W.widen (k := 0) (n := 0) (Nat.le_of_ble_eq_true rfl) (Nat.le_of_ble_eq_true rfl) ?_
    obtain rfl : r_3 = 0 := hw
    refine W.widen (k := 0) (n := 0) (Nat.le_of_ble_eq_true rfl) (Nat.le_of_ble_eq_true rfl) ?_
    have hP9 := hP.sub (ws' := [(g0, .inr (11, mF a 0 0 1000 1))]) [0] rfl
    have hD9 := hD.sub (ws' := [(g0, .inr (11, mF a 0 0 1000 1))]) [0] (by decide) rfl
    have hK9 := hK.sub (tys' := []) [] rfl
    exact W.iret (v := 0) hx hb hr (fun t ht hW => ⟨⟨0, (0, 0, 1000, 1), rfl, rfl, by rw [ht]; exact hP9, va_K.moved hW.alike hK9, hD9⟩, hS.F ht⟩) hS.2.2 dX12_other_18
set_option maxHeartbeats 4000000 in
set_option maxRecDepth 100000 in
theorem c_X12_reached (l : Launch) (dC : Nat → ClassId) (dI : Nat → Nat → Nat) (a : Nat → Nat) (g0 : Nat) (p0 : Int32) (sz : Nat) : Met l yX12_reached wsX12_reached ({ frames := 20, cells := 0, slots := 0, locals := 600 }) (va_Pc [.ref g0, .int p0] (fun U => U.heap.size = sz ∧ va_P (dC, dI) vwCl [(g0, .inr (11, mF a 0 0 1000 0))] U.heap ∧ va_K (dC, dI) vwCl [] U ∧ va_D (fun _ => True) [(g0, .inr (11, mF a 0 0 1000 0))])) (va_Qi (fun (r : Int32) (u : Int32 × Int32 × Int32 × Int32) => u.2.2.2 = 1) (fun (u : Int32 × Int32 × Int32 × Int32) (t : State) => va_P (dC, dI) vwCl [(g0, .inr (11, mF a u.1 u.2.1 u.2.2.1 u.2.2.2))] t.heap ∧ va_K (dC, dI) vwCl [] t ∧ va_D (va_A [(g0, .inr (11, mF a 0 0 1000 0))] sz) [(g0, .inr (11, mF a u.1 u.2.1 u.2.2.1 u.2.2.2))]) (va_A [(g0, .inr (11, mF a 0 0 1000 0))] sz)) 0 0 (va_A [(g0, .inr (11, mF a 0 0 1000 0))] sz) := by
  refine Met.ofW (cc := cX12_reached) (maxL := 3) (ret := (some .int)) (by decide) rfl ?_
  intro p e s m args below meth c s₁ B hml hv
  obtain ⟨rfl, hsz, hP, hK, hD0⟩ := hv
  have hx := B.exec
  have hb := B.bytes
  have hr := B.returns
  have hts := atoms_spec (ws := wsX12_reached) B.pre
  have hown : s.vm.findClass RX12 = some m.cls := findClass_of_methodNamed B.named
  have hlocks := B.notSynchronized
  subst hsz
  have hD := hD0.self (sz := s.heap.size)
  generalize hAe : va_A [(g0, .inr (11, mF a 0 0 1000 0))] s.heap.size = A at hD ⊢
  have hA : ∀ q : Nat, s.heap.size ≤ q → A q := fun q h => by rw [← hAe]; exact Or.inr h
  generalize hH : s.heap = H at hP ⊢
  have hS : va_S A s.heap H [] := by rw [← hH]; exact va_S.rf
  have hl := lv_entry [.ref g0, .int p0] (n := 3) (Nat.le_of_ble_eq_true rfl)
  rw [lg_entry_eq]
  generalize (lg_sl [.ref g0, .int p0] ++ List.replicate (3 - (lg_sl [.ref g0, .int p0]).length) Slot.unset).toArray = ls at hl ⊢
  have hl : lv_has ls 3 [(0, .ref g0), (1, .int p0)] := hl
  have hP : va_P (dC, dI) vwCl [(g0, .inr (11, mF a 0 0 1000 0))] H := hP
  refine lv_aload_n hx hb dX12_reached_0 rfl (lv_at hl 0 rfl) ?_
  refine lv_iconst (v := 0) hx hb dX12_reached_1 (by decide) ?_
  refine va_put (D := (dC, dI)) (ci := 11) (v := .int 0) (ty := .int) (C := RX12) (T := TX12) (N := 32) hx hb hts (by decide +kernel) tyX12 tyX12_ok nmX12 hown hK hP hD hS 0 rfl rfl 19 (by decide) (hts (.fieldLink RX12 63 "NeededListsModel" "thrown" "I") (by decide +kernel)) (fun _ h9 => h9) rfl (by decide +kernel) rfl rfl (Nat.le_of_ble_eq_true rfl) dX12_reached_2 (fun H locs hP hD hS => ?_)
  have hP : va_P (dC, dI) vwCl [(g0, .inr (11, mF a 0 0 1000 0))] H := hP
  have hD : va_D A [(g0, .inr (11, mF a 0 0 1000 0))] := hD
  refine lv_aload_n hx hb dX12_reached_5 rfl (lv_at hl 0 rfl) ?_
  refine lv_iload_n hx hb dX12_reached_6 rfl (lv_at hl 1 rfl) ?_
  have hPc := hP.sub (ws' := [(g0, .inr (11, mF a 0 0 1000 0))]) [0] rfl
  have hDc : va_D (fun _ => True) ([] : va_W) := nd_0
  have hKc := hK.sub (tys' := []) [] rfl
  have hFc := va_free (wc := []) hD hS hA [] rfl
  refine va_calli (va_runV (As := [.int p0]) (rest := []) ⟨hx, hb, hml, hown, hts⟩ (c_X12_isList l dC dI a g0 0 1000 0 p0 H.size) (cwV 1 hts gX12_reached_X12_isList rfl rfl rfl (by decide +kernel) ⟨Nat.le_of_ble_eq_true rfl, Nat.le_of_ble_eq_true rfl⟩) ⟨fun a U g mk q => by obtain ⟨q0, q1, qP, qK, qD⟩ := q; exact ⟨q0, q1, qP, va_K.moved (u := U) (U := U.calling g mk a) (Vm.Alike.refl U.vm) qK, qD⟩, va_recv hKc hPc (ci := 11) (q0 := 0) rfl rfl, fun U hU hW => ⟨rfl, by rw [hU], by rw [hU]; exact hPc, va_K.moved hW.alike hKc, hDc.weaken (fun _ _ _ _ => trivial)⟩⟩ rfl rfl hl.1 rfl (lv_room (Nat.le_of_ble_eq_true rfl)) dX12_reached_7 ⟨Nat.le_of_ble_eq_true rfl, Nat.le_of_ble_eq_true rfl⟩) hS (fun q _ h => hFc q h) hFc (fun r_1 u_2 t H1 locs ht hvm hw hB hz1 hk1 hS => ?_)
  have hP := nd_keep hP hk1
  generalize H1 = H at hP hS ⊢
  have hP : va_P (dC, dI) vwCl [(g0, .inr (11, mF a 0 0 1000 0))] H := hP
  have hD : va_D A [(g0, .inr (11, mF a 0 0 1000 0))] := hD
  refine W.widen (k := 0) (n := 0) (Nat.le_of_ble_eq_true rfl) (Nat.le_of_ble_eq_true rfl) ?_
  obtain rfl : r_1 = 0 := hw
  refine lv_if_ne (tgt := 19) hx hb dX12_reached_10 (by decide) (fun c_10 => ?_) (fun c_10 => ?_)
  · exact absurd c_10 (by decide)
  · refine lv_aload_n hx hb dX12_reached_13 rfl (lv_at hl 0 rfl) ?_
    refine lv_iconst (v := 1) hx hb dX12_reached_14 (by decide) ?_
    have hPc := hP.sub (ws' := [(g0, .inr (11, mF a 0 0 1000 0))]) [0] rfl
    have hDc := hD.sub (ws' := [(g0, .inr (11, mF a 0 0 1000 0))]) [0] (by decide) rfl
    have hKc := hK.sub (tys' := []) [] rfl
    have hFc := va_free (wc := [(g0, .inr (11, mF a 0 0 1000 0))]) hD hS hA [0] rfl
    refine va_calli (va_runV (As := [.int 1]) (rest := []) ⟨hx, hb, hml, hown, hts⟩ (c_X12_fail l dC dI a g0 0 0 1000 0 1 H.size) (cwV 1 hts gX12_reached_X12_fail rfl rfl rfl (by decide +kernel) ⟨Nat.le_of_ble_eq_true rfl, Nat.le_of_ble_eq_true rfl⟩) ⟨fun a U g mk q => by obtain ⟨q0, q1, qP, qK, qD⟩ := q; exact ⟨q0, q1, qP, va_K.moved (u := U) (U := U.calling g mk a) (Vm.Alike.refl U.vm) qK, qD⟩, va_recv hKc hPc (ci := 11) (q0 := 0) rfl rfl, fun U hU hW => ⟨rfl, by rw [hU], by rw [hU]; exact hPc, va_K.moved hW.alike hKc, hDc.weaken (fun _ _ _ _ => trivial)⟩⟩ rfl rfl hl.1 rfl (lv_room (Nat.le_of_ble_eq_true rfl)) dX12_reached_15 ⟨Nat.le_of_ble_eq_true rfl, Nat.le_of_ble_eq_true rfl⟩) hS (fun q _ h => hFc q h) hFc (fun r_3 u_4 t H1 locs ht hvm hw hB hz1 hk1 hS => ?_)
    obtain ⟨hP1, hK1, hD1⟩ := hB
    rw [ht] at hP1
    have hK1 := va_K.moved hvm.symm hK1
    have hK := hK.app hK1
    obtain ⟨hP, hD⟩ := va_join (wr := []) (w1 := [(g0, .inr (11, mF a 0 0 1000 1))]) hP hD [0] [] rfl rfl (by decide) (by decide) hk1 hFc hP1 hD1
    generalize H1 = H at hP hS ⊢
    have hP : va_P (dC, dI) vwCl [(g0, .inr (11, mF a 0 0 1000 1))] H := hP
    have hD : va_D A [(g0, .inr (11, mF a 0 0 1000 1))] := hD
    have hK : va_K (dC, dI) vwCl [] s := hK
    refine W.widen (k := 0) (n := 0) (Nat.le_of_ble_eq_true rfl) (Nat.le_of_ble_eq_true rfl) ?_
    obtain rfl : r_3 = 0 := hw
    refine W.widen (k := 0) (n := 0) (Nat.le_of_ble_eq_true rfl) (Nat.le_of_ble_eq_true rfl) ?_
    have hP9 := hP.sub (ws' := [(g0, .inr (11, mF a 0 0 1000 1))]) [0] rfl
    have hD9 := hD.sub (ws' := [(g0, .inr (11, mF a 0 0 1000 1))]) [0] (by decide) rfl
    have hK9 := hK.sub (tys' := []) [] rfl
    exact W.iret (v := 0) hx hb hr (fun t ht hW => ⟨⟨0, (0, 0, 1000, 1), rfl, rfl, by rw [ht]; exact hP9, va_K.moved hW.alike hK9, hD9⟩, hS.F ht⟩) hS.2.2 dX12_reached_18
set_option maxHeartbeats 4000000 in
set_option maxRecDepth 100000 in
theorem c_X12_worked (l : Launch) (dC : Nat → ClassId) (dI : Nat → Nat → Nat) (a : Nat → Nat) (g0 : Nat) (p0 : Int32) (p1 : Int32) (sz : Nat) : Met l yX12_worked wsX12_worked ({ frames := 20, cells := 0, slots := 0, locals := 600 }) (va_Pc [.ref g0, .int p0, .int p1] (fun U => U.heap.size = sz ∧ va_P (dC, dI) vwCl [(g0, .inr (11, mF a 0 0 1000 0))] U.heap ∧ va_K (dC, dI) vwCl [] U ∧ va_D (fun _ => True) [(g0, .inr (11, mF a 0 0 1000 0))])) (va_Qi (fun (r : Int32) (u : Int32 × Int32 × Int32 × Int32) => u.2.2.2 = 1) (fun (u : Int32 × Int32 × Int32 × Int32) (t : State) => va_P (dC, dI) vwCl [(g0, .inr (11, mF a u.1 u.2.1 u.2.2.1 u.2.2.2))] t.heap ∧ va_K (dC, dI) vwCl [] t ∧ va_D (va_A [(g0, .inr (11, mF a 0 0 1000 0))] sz) [(g0, .inr (11, mF a u.1 u.2.1 u.2.2.1 u.2.2.2))]) (va_A [(g0, .inr (11, mF a 0 0 1000 0))] sz)) 0 0 (va_A [(g0, .inr (11, mF a 0 0 1000 0))] sz) := by
  refine Met.ofW (cc := cX12_worked) (maxL := 3) (ret := (some .boolean)) (by decide) rfl ?_
  intro p e s m args below meth c s₁ B hml hv
  obtain ⟨rfl, hsz, hP, hK, hD0⟩ := hv
  have hx := B.exec
  have hb := B.bytes
  have hr := B.returns
  have hts := atoms_spec (ws := wsX12_worked) B.pre
  have hown : s.vm.findClass RX12 = some m.cls := findClass_of_methodNamed B.named
  have hlocks := B.notSynchronized
  subst hsz
  have hD := hD0.self (sz := s.heap.size)
  generalize hAe : va_A [(g0, .inr (11, mF a 0 0 1000 0))] s.heap.size = A at hD ⊢
  have hA : ∀ q : Nat, s.heap.size ≤ q → A q := fun q h => by rw [← hAe]; exact Or.inr h
  generalize hH : s.heap = H at hP ⊢
  have hS : va_S A s.heap H [] := by rw [← hH]; exact va_S.rf
  have hl := lv_entry [.ref g0, .int p0, .int p1] (n := 3) (Nat.le_of_ble_eq_true rfl)
  rw [lg_entry_eq]
  generalize (lg_sl [.ref g0, .int p0, .int p1] ++ List.replicate (3 - (lg_sl [.ref g0, .int p0, .int p1]).length) Slot.unset).toArray = ls at hl ⊢
  have hl : lv_has ls 3 [(0, .ref g0), (1, .int p0), (2, .int p1)] := hl
  have hP : va_P (dC, dI) vwCl [(g0, .inr (11, mF a 0 0 1000 0))] H := hP
  refine lv_aload_n hx hb dX12_worked_0 rfl (lv_at hl 0 rfl) ?_
  refine lv_iconst (v := 0) hx hb dX12_worked_1 (by decide) ?_
  refine va_put (D := (dC, dI)) (ci := 11) (v := .int 0) (ty := .int) (C := RX12) (T := TX12) (N := 32) hx hb hts (by decide +kernel) tyX12 tyX12_ok nmX12 hown hK hP hD hS 0 rfl rfl 19 (by decide) (hts (.fieldLink RX12 63 "NeededListsModel" "thrown" "I") (by decide +kernel)) (fun _ h9 => h9) rfl (by decide +kernel) rfl rfl (Nat.le_of_ble_eq_true rfl) dX12_worked_2 (fun H locs hP hD hS => ?_)
  have hP : va_P (dC, dI) vwCl [(g0, .inr (11, mF a 0 0 1000 0))] H := hP
  have hD : va_D A [(g0, .inr (11, mF a 0 0 1000 0))] := hD
  refine lv_aload_n hx hb dX12_worked_5 rfl (lv_at hl 0 rfl) ?_
  refine lv_iload_n hx hb dX12_worked_6 rfl (lv_at hl 1 rfl) ?_
  have hPc := hP.sub (ws' := [(g0, .inr (11, mF a 0 0 1000 0))]) [0] rfl
  have hDc : va_D (fun _ => True) ([] : va_W) := nd_0
  have hKc := hK.sub (tys' := []) [] rfl
  have hFc := va_free (wc := []) hD hS hA [] rfl
  refine va_calli (va_runV (As := [.int p0]) (rest := []) ⟨hx, hb, hml, hown, hts⟩ (c_X12_isList l dC dI a g0 0 1000 0 p0 H.size) (cwV 1 hts gX12_worked_X12_isList rfl rfl rfl (by decide +kernel) ⟨Nat.le_of_ble_eq_true rfl, Nat.le_of_ble_eq_true rfl⟩) ⟨fun a U g mk q => by obtain ⟨q0, q1, qP, qK, qD⟩ := q; exact ⟨q0, q1, qP, va_K.moved (u := U) (U := U.calling g mk a) (Vm.Alike.refl U.vm) qK, qD⟩, va_recv hKc hPc (ci := 11) (q0 := 0) rfl rfl, fun U hU hW => ⟨rfl, by rw [hU], by rw [hU]; exact hPc, va_K.moved hW.alike hKc, hDc.weaken (fun _ _ _ _ => trivial)⟩⟩ rfl rfl hl.1 rfl (lv_room (Nat.le_of_ble_eq_true rfl)) dX12_worked_7 ⟨Nat.le_of_ble_eq_true rfl, Nat.le_of_ble_eq_true rfl⟩) hS (fun q _ h => hFc q h) hFc (fun r_1 u_2 t H1 locs ht hvm hw hB hz1 hk1 hS => ?_)
  have hP := nd_keep hP hk1
  generalize H1 = H at hP hS ⊢
  have hP : va_P (dC, dI) vwCl [(g0, .inr (11, mF a 0 0 1000 0))] H := hP
  have hD : va_D A [(g0, .inr (11, mF a 0 0 1000 0))] := hD
  refine W.widen (k := 0) (n := 0) (Nat.le_of_ble_eq_true rfl) (Nat.le_of_ble_eq_true rfl) ?_
  obtain rfl : r_1 = 0 := hw
  refine lv_if_ne (tgt := 27) hx hb dX12_worked_10 (by decide) (fun c_10 => ?_) (fun c_10 => ?_)
  · exact absurd c_10 (by decide)
  · refine lv_aload_n hx hb dX12_worked_13 rfl (lv_at hl 0 rfl) ?_
    refine lv_iconst (v := 1) hx hb dX12_worked_14 (by decide) ?_
    have hPc := hP.sub (ws' := [(g0, .inr (11, mF a 0 0 1000 0))]) [0] rfl
    have hDc := hD.sub (ws' := [(g0, .inr (11, mF a 0 0 1000 0))]) [0] (by decide) rfl
    have hKc := hK.sub (tys' := []) [] rfl
    have hFc := va_free (wc := [(g0, .inr (11, mF a 0 0 1000 0))]) hD hS hA [0] rfl
    refine va_calli (va_runV (As := [.int 1]) (rest := []) ⟨hx, hb, hml, hown, hts⟩ (c_X12_fail l dC dI a g0 0 0 1000 0 1 H.size) (cwV 1 hts gX12_worked_X12_fail rfl rfl rfl (by decide +kernel) ⟨Nat.le_of_ble_eq_true rfl, Nat.le_of_ble_eq_true rfl⟩) ⟨fun a U g mk q => by obtain ⟨q0, q1, qP, qK, qD⟩ := q; exact ⟨q0, q1, qP, va_K.moved (u := U) (U := U.calling g mk a) (Vm.Alike.refl U.vm) qK, qD⟩, va_recv hKc hPc (ci := 11) (q0 := 0) rfl rfl, fun U hU hW => ⟨rfl, by rw [hU], by rw [hU]; exact hPc, va_K.moved hW.alike hKc, hDc.weaken (fun _ _ _ _ => trivial)⟩⟩ rfl rfl hl.1 rfl (lv_room (Nat.le_of_ble_eq_true rfl)) dX12_worked_15 ⟨Nat.le_of_ble_eq_true rfl, Nat.le_of_ble_eq_true rfl⟩) hS (fun q _ h => hFc q h) hFc (fun r_3 u_4 t H1 locs ht hvm hw hB hz1 hk1 hS => ?_)
    obtain ⟨hP1, hK1, hD1⟩ := hB
    rw [ht] at hP1
    have hK1 := va_K.moved hvm.symm hK1
    have hK := hK.app hK1
    obtain ⟨hP, hD⟩ := va_join (wr := []) (w1 := [(g0, .inr (11, mF a 0 0 1000 1))]) hP hD [0] [] rfl rfl (by decide) (by decide) hk1 hFc hP1 hD1
    generalize H1 = H at hP hS ⊢
    have hP : va_P (dC, dI) vwCl [(g0, .inr (11, mF a 0 0 1000 1))] H := hP
    have hD : va_D A [(g0, .inr (11, mF a 0 0 1000 1))] := hD
    have hK : va_K (dC, dI) vwCl [] s := hK
    refine W.widen (k := 0) (n := 0) (Nat.le_of_ble_eq_true rfl) (Nat.le_of_ble_eq_true rfl) ?_
    obtain rfl : r_3 = 0 := hw
    refine lv_if_le (tgt := 25) hx hb dX12_worked_18 (by decide) (fun c_18 => ?_) (fun c_18 => ?_)
    · refine lv_iconst (v := 0) hx hb dX12_worked_25 (by decide) ?_
      refine W.widen (k := 0) (n := 0) (Nat.le_of_ble_eq_true rfl) (Nat.le_of_ble_eq_true rfl) ?_
      have hP9 := hP.sub (ws' := [(g0, .inr (11, mF a 0 0 1000 1))]) [0] rfl
      have hD9 := hD.sub (ws' := [(g0, .inr (11, mF a 0 0 1000 1))]) [0] (by decide) rfl
      have hK9 := hK.sub (tys' := []) [] rfl
      exact W.zret (v := 0) hx hb hr (by decide) (fun t ht hW => ⟨⟨0, (0, 0, 1000, 1), rfl, rfl, by rw [ht]; exact hP9, va_K.moved hW.alike hK9, hD9⟩, hS.F ht⟩) hS.2.2 dX12_worked_26
    · exact absurd c_18 (by decide)
set_option maxHeartbeats 4000000 in
set_option maxRecDepth 100000 in
theorem c_X12_at (l : Launch) (dC : Nat → ClassId) (dI : Nat → Nat → Nat) (a : Nat → Nat) (g0 : Nat) (p0 : Int32) (p1 : Int32) (sz : Nat) : Met l yX12_at wsX12_at ({ frames := 20, cells := 0, slots := 0, locals := 600 }) (va_Pc [.ref g0, .int p0, .int p1] (fun U => U.heap.size = sz ∧ va_P (dC, dI) vwCl [(g0, .inr (11, mF a 0 0 1000 0))] U.heap ∧ va_K (dC, dI) vwCl [] U ∧ va_D (fun _ => True) [(g0, .inr (11, mF a 0 0 1000 0))])) (va_Ql (fun (r : Int64) (u : Int32 × Int32 × Int32 × Int32) => u.2.2.2 = 1) (fun (u : Int32 × Int32 × Int32 × Int32) (t : State) => va_P (dC, dI) vwCl [(g0, .inr (11, mF a u.1 u.2.1 u.2.2.1 u.2.2.2))] t.heap ∧ va_K (dC, dI) vwCl [] t ∧ va_D (va_A [(g0, .inr (11, mF a 0 0 1000 0))] sz) [(g0, .inr (11, mF a u.1 u.2.1 u.2.2.1 u.2.2.2))]) (va_A [(g0, .inr (11, mF a 0 0 1000 0))] sz)) 0 0 (va_A [(g0, .inr (11, mF a 0 0 1000 0))] sz) := by
  refine Met.ofW (cc := cX12_at) (maxL := 5) (ret := (some .long)) (by decide) rfl ?_
  intro p e s m args below meth c s₁ B hml hv
  obtain ⟨rfl, hsz, hP, hK, hD0⟩ := hv
  have hx := B.exec
  have hb := B.bytes
  have hr := B.returns
  have hts := atoms_spec (ws := wsX12_at) B.pre
  have hown : s.vm.findClass RX12 = some m.cls := findClass_of_methodNamed B.named
  have hlocks := B.notSynchronized
  subst hsz
  have hD := hD0.self (sz := s.heap.size)
  generalize hAe : va_A [(g0, .inr (11, mF a 0 0 1000 0))] s.heap.size = A at hD ⊢
  have hA : ∀ q : Nat, s.heap.size ≤ q → A q := fun q h => by rw [← hAe]; exact Or.inr h
  generalize hH : s.heap = H at hP ⊢
  have hS : va_S A s.heap H [] := by rw [← hH]; exact va_S.rf
  have hl := lv_entry [.ref g0, .int p0, .int p1] (n := 5) (Nat.le_of_ble_eq_true rfl)
  rw [lg_entry_eq]
  generalize (lg_sl [.ref g0, .int p0, .int p1] ++ List.replicate (5 - (lg_sl [.ref g0, .int p0, .int p1]).length) Slot.unset).toArray = ls at hl ⊢
  have hl : lv_has ls 5 [(0, .ref g0), (1, .int p0), (2, .int p1)] := hl
  have hP : va_P (dC, dI) vwCl [(g0, .inr (11, mF a 0 0 1000 0))] H := hP
  refine lv_aload_n hx hb dX12_at_0 rfl (lv_at hl 0 rfl) ?_
  refine lv_iconst (v := 0) hx hb dX12_at_1 (by decide) ?_
  refine va_put (D := (dC, dI)) (ci := 11) (v := .int 0) (ty := .int) (C := RX12) (T := TX12) (N := 32) hx hb hts (by decide +kernel) tyX12 tyX12_ok nmX12 hown hK hP hD hS 0 rfl rfl 19 (by decide) (hts (.fieldLink RX12 63 "NeededListsModel" "thrown" "I") (by decide +kernel)) (fun _ h9 => h9) rfl (by decide +kernel) rfl rfl (Nat.le_of_ble_eq_true rfl) dX12_at_2 (fun H locs hP hD hS => ?_)
  have hP : va_P (dC, dI) vwCl [(g0, .inr (11, mF a 0 0 1000 0))] H := hP
  have hD : va_D A [(g0, .inr (11, mF a 0 0 1000 0))] := hD
  refine lv_aload_n hx hb dX12_at_5 rfl (lv_at hl 0 rfl) ?_
  refine lv_iload_n hx hb dX12_at_6 rfl (lv_at hl 1 rfl) ?_
  have hPc := hP.sub (ws' := [(g0, .inr (11, mF a 0 0 1000 0))]) [0] rfl
  have hDc : va_D (fun _ => True) ([] : va_W) := nd_0
  have hKc := hK.sub (tys' := []) [] rfl
  have hFc := va_free (wc := []) hD hS hA [] rfl
  refine va_calli (va_runV (As := [.int p0]) (rest := []) ⟨hx, hb, hml, hown, hts⟩ (c_X12_isList l dC dI a g0 0 1000 0 p0 H.size) (cwV 1 hts gX12_at_X12_isList rfl rfl rfl (by decide +kernel) ⟨Nat.le_of_ble_eq_true rfl, Nat.le_of_ble_eq_true rfl⟩) ⟨fun a U g mk q => by obtain ⟨q0, q1, qP, qK, qD⟩ := q; exact ⟨q0, q1, qP, va_K.moved (u := U) (U := U.calling g mk a) (Vm.Alike.refl U.vm) qK, qD⟩, va_recv hKc hPc (ci := 11) (q0 := 0) rfl rfl, fun U hU hW => ⟨rfl, by rw [hU], by rw [hU]; exact hPc, va_K.moved hW.alike hKc, hDc.weaken (fun _ _ _ _ => trivial)⟩⟩ rfl rfl hl.1 rfl (lv_room (Nat.le_of_ble_eq_true rfl)) dX12_at_7 ⟨Nat.le_of_ble_eq_true rfl, Nat.le_of_ble_eq_true rfl⟩) hS (fun q _ h => hFc q h) hFc (fun r_1 u_2 t H1 locs ht hvm hw hB hz1 hk1 hS => ?_)
  have hP := nd_keep hP hk1
  generalize H1 = H at hP hS ⊢
  have hP : va_P (dC, dI) vwCl [(g0, .inr (11, mF a 0 0 1000 0))] H := hP
  have hD : va_D A [(g0, .inr (11, mF a 0 0 1000 0))] := hD
  refine W.widen (k := 0) (n := 0) (Nat.le_of_ble_eq_true rfl) (Nat.le_of_ble_eq_true rfl) ?_
  obtain rfl : r_1 = 0 := hw
  refine lv_if_ne (tgt := 20) hx hb dX12_at_10 (by decide) (fun c_10 => ?_) (fun c_10 => ?_)
  · exact absurd c_10 (by decide)
  · refine lv_aload_n hx hb dX12_at_13 rfl (lv_at hl 0 rfl) ?_
    refine lv_iconst (v := 1) hx hb dX12_at_14 (by decide) ?_
    have hPc := hP.sub (ws' := [(g0, .inr (11, mF a 0 0 1000 0))]) [0] rfl
    have hDc := hD.sub (ws' := [(g0, .inr (11, mF a 0 0 1000 0))]) [0] (by decide) rfl
    have hKc := hK.sub (tys' := []) [] rfl
    have hFc := va_free (wc := [(g0, .inr (11, mF a 0 0 1000 0))]) hD hS hA [0] rfl
    refine va_calli (va_runV (As := [.int 1]) (rest := []) ⟨hx, hb, hml, hown, hts⟩ (c_X12_fail l dC dI a g0 0 0 1000 0 1 H.size) (cwV 1 hts gX12_at_X12_fail rfl rfl rfl (by decide +kernel) ⟨Nat.le_of_ble_eq_true rfl, Nat.le_of_ble_eq_true rfl⟩) ⟨fun a U g mk q => by obtain ⟨q0, q1, qP, qK, qD⟩ := q; exact ⟨q0, q1, qP, va_K.moved (u := U) (U := U.calling g mk a) (Vm.Alike.refl U.vm) qK, qD⟩, va_recv hKc hPc (ci := 11) (q0 := 0) rfl rfl, fun U hU hW => ⟨rfl, by rw [hU], by rw [hU]; exact hPc, va_K.moved hW.alike hKc, hDc.weaken (fun _ _ _ _ => trivial)⟩⟩ rfl rfl hl.1 rfl (lv_room (Nat.le_of_ble_eq_true rfl)) dX12_at_15 ⟨Nat.le_of_ble_eq_true rfl, Nat.le_of_ble_eq_true rfl⟩) hS (fun q _ h => hFc q h) hFc (fun r_3 u_4 t H1 locs ht hvm hw hB hz1 hk1 hS => ?_)
    obtain ⟨hP1, hK1, hD1⟩ := hB
    rw [ht] at hP1
    have hK1 := va_K.moved hvm.symm hK1
    have hK := hK.app hK1
    obtain ⟨hP, hD⟩ := va_join (wr := []) (w1 := [(g0, .inr (11, mF a 0 0 1000 1))]) hP hD [0] [] rfl rfl (by decide) (by decide) hk1 hFc hP1 hD1
    generalize H1 = H at hP hS ⊢
    have hP : va_P (dC, dI) vwCl [(g0, .inr (11, mF a 0 0 1000 1))] H := hP
    have hD : va_D A [(g0, .inr (11, mF a 0 0 1000 1))] := hD
    have hK : va_K (dC, dI) vwCl [] s := hK
    refine W.widen (k := 0) (n := 0) (Nat.le_of_ble_eq_true rfl) (Nat.le_of_ble_eq_true rfl) ?_
    obtain rfl : r_3 = 0 := hw
    refine lv_i2l (v := 0) hx hb dX12_at_18 (by decide) ?_
    refine W.widen (k := 0) (n := 0) (Nat.le_of_ble_eq_true rfl) (Nat.le_of_ble_eq_true rfl) ?_
    have hP9 := hP.sub (ws' := [(g0, .inr (11, mF a 0 0 1000 1))]) [0] rfl
    have hD9 := hD.sub (ws' := [(g0, .inr (11, mF a 0 0 1000 1))]) [0] (by decide) rfl
    have hK9 := hK.sub (tys' := []) [] rfl
    exact W.lret (v := 0) hx hb hr (fun t ht hW => ⟨⟨0, (0, 0, 1000, 1), rfl, rfl, by rw [ht]; exact hP9, va_K.moved hW.alike hK9, hD9⟩, hS.F ht⟩) hS.2.2 dX12_at_19
set_option maxHeartbeats 4000000 in
set_option maxRecDepth 100000 in
theorem c_X12_size (l : Launch) (dC : Nat → ClassId) (dI : Nat → Nat → Nat) (a : Nat → Nat) (g0 : Nat) (p0 : Int32) (sz : Nat) : Met l yX12_size wsX12_size ({ frames := 20, cells := 0, slots := 0, locals := 600 }) (va_Pc [.ref g0, .int p0] (fun U => U.heap.size = sz ∧ va_P (dC, dI) vwCl [(g0, .inr (11, mF a 0 0 1000 0))] U.heap ∧ va_K (dC, dI) vwCl [] U ∧ va_D (fun _ => True) [(g0, .inr (11, mF a 0 0 1000 0))])) (va_Ql (fun (r : Int64) (u : Int32 × Int32 × Int32 × Int32) => u.2.2.2 = 1) (fun (u : Int32 × Int32 × Int32 × Int32) (t : State) => va_P (dC, dI) vwCl [(g0, .inr (11, mF a u.1 u.2.1 u.2.2.1 u.2.2.2))] t.heap ∧ va_K (dC, dI) vwCl [] t ∧ va_D (va_A [(g0, .inr (11, mF a 0 0 1000 0))] sz) [(g0, .inr (11, mF a u.1 u.2.1 u.2.2.1 u.2.2.2))]) (va_A [(g0, .inr (11, mF a 0 0 1000 0))] sz)) 0 0 (va_A [(g0, .inr (11, mF a 0 0 1000 0))] sz) := by
  refine Met.ofW (cc := cX12_size) (maxL := 4) (ret := (some .long)) (by decide) rfl ?_
  intro p e s m args below meth c s₁ B hml hv
  obtain ⟨rfl, hsz, hP, hK, hD0⟩ := hv
  have hx := B.exec
  have hb := B.bytes
  have hr := B.returns
  have hts := atoms_spec (ws := wsX12_size) B.pre
  have hown : s.vm.findClass RX12 = some m.cls := findClass_of_methodNamed B.named
  have hlocks := B.notSynchronized
  subst hsz
  have hD := hD0.self (sz := s.heap.size)
  generalize hAe : va_A [(g0, .inr (11, mF a 0 0 1000 0))] s.heap.size = A at hD ⊢
  have hA : ∀ q : Nat, s.heap.size ≤ q → A q := fun q h => by rw [← hAe]; exact Or.inr h
  generalize hH : s.heap = H at hP ⊢
  have hS : va_S A s.heap H [] := by rw [← hH]; exact va_S.rf
  have hl := lv_entry [.ref g0, .int p0] (n := 4) (Nat.le_of_ble_eq_true rfl)
  rw [lg_entry_eq]
  generalize (lg_sl [.ref g0, .int p0] ++ List.replicate (4 - (lg_sl [.ref g0, .int p0]).length) Slot.unset).toArray = ls at hl ⊢
  have hl : lv_has ls 4 [(0, .ref g0), (1, .int p0)] := hl
  have hP : va_P (dC, dI) vwCl [(g0, .inr (11, mF a 0 0 1000 0))] H := hP
  refine lv_aload_n hx hb dX12_size_0 rfl (lv_at hl 0 rfl) ?_
  refine lv_iconst (v := 0) hx hb dX12_size_1 (by decide) ?_
  refine va_put (D := (dC, dI)) (ci := 11) (v := .int 0) (ty := .int) (C := RX12) (T := TX12) (N := 32) hx hb hts (by decide +kernel) tyX12 tyX12_ok nmX12 hown hK hP hD hS 0 rfl rfl 19 (by decide) (hts (.fieldLink RX12 63 "NeededListsModel" "thrown" "I") (by decide +kernel)) (fun _ h9 => h9) rfl (by decide +kernel) rfl rfl (Nat.le_of_ble_eq_true rfl) dX12_size_2 (fun H locs hP hD hS => ?_)
  have hP : va_P (dC, dI) vwCl [(g0, .inr (11, mF a 0 0 1000 0))] H := hP
  have hD : va_D A [(g0, .inr (11, mF a 0 0 1000 0))] := hD
  refine lv_aload_n hx hb dX12_size_5 rfl (lv_at hl 0 rfl) ?_
  refine lv_iload_n hx hb dX12_size_6 rfl (lv_at hl 1 rfl) ?_
  have hPc := hP.sub (ws' := [(g0, .inr (11, mF a 0 0 1000 0))]) [0] rfl
  have hDc : va_D (fun _ => True) ([] : va_W) := nd_0
  have hKc := hK.sub (tys' := []) [] rfl
  have hFc := va_free (wc := []) hD hS hA [] rfl
  refine va_calli (va_runV (As := [.int p0]) (rest := []) ⟨hx, hb, hml, hown, hts⟩ (c_X12_isList l dC dI a g0 0 1000 0 p0 H.size) (cwV 1 hts gX12_size_X12_isList rfl rfl rfl (by decide +kernel) ⟨Nat.le_of_ble_eq_true rfl, Nat.le_of_ble_eq_true rfl⟩) ⟨fun a U g mk q => by obtain ⟨q0, q1, qP, qK, qD⟩ := q; exact ⟨q0, q1, qP, va_K.moved (u := U) (U := U.calling g mk a) (Vm.Alike.refl U.vm) qK, qD⟩, va_recv hKc hPc (ci := 11) (q0 := 0) rfl rfl, fun U hU hW => ⟨rfl, by rw [hU], by rw [hU]; exact hPc, va_K.moved hW.alike hKc, hDc.weaken (fun _ _ _ _ => trivial)⟩⟩ rfl rfl hl.1 rfl (lv_room (Nat.le_of_ble_eq_true rfl)) dX12_size_7 ⟨Nat.le_of_ble_eq_true rfl, Nat.le_of_ble_eq_true rfl⟩) hS (fun q _ h => hFc q h) hFc (fun r_1 u_2 t H1 locs ht hvm hw hB hz1 hk1 hS => ?_)
  have hP := nd_keep hP hk1
  generalize H1 = H at hP hS ⊢
  have hP : va_P (dC, dI) vwCl [(g0, .inr (11, mF a 0 0 1000 0))] H := hP
  have hD : va_D A [(g0, .inr (11, mF a 0 0 1000 0))] := hD
  refine W.widen (k := 0) (n := 0) (Nat.le_of_ble_eq_true rfl) (Nat.le_of_ble_eq_true rfl) ?_
  obtain rfl : r_1 = 0 := hw
  refine lv_if_ne (tgt := 20) hx hb dX12_size_10 (by decide) (fun c_10 => ?_) (fun c_10 => ?_)
  · exact absurd c_10 (by decide)
  · refine lv_aload_n hx hb dX12_size_13 rfl (lv_at hl 0 rfl) ?_
    refine lv_iconst (v := 1) hx hb dX12_size_14 (by decide) ?_
    have hPc := hP.sub (ws' := [(g0, .inr (11, mF a 0 0 1000 0))]) [0] rfl
    have hDc := hD.sub (ws' := [(g0, .inr (11, mF a 0 0 1000 0))]) [0] (by decide) rfl
    have hKc := hK.sub (tys' := []) [] rfl
    have hFc := va_free (wc := [(g0, .inr (11, mF a 0 0 1000 0))]) hD hS hA [0] rfl
    refine va_calli (va_runV (As := [.int 1]) (rest := []) ⟨hx, hb, hml, hown, hts⟩ (c_X12_fail l dC dI a g0 0 0 1000 0 1 H.size) (cwV 1 hts gX12_size_X12_fail rfl rfl rfl (by decide +kernel) ⟨Nat.le_of_ble_eq_true rfl, Nat.le_of_ble_eq_true rfl⟩) ⟨fun a U g mk q => by obtain ⟨q0, q1, qP, qK, qD⟩ := q; exact ⟨q0, q1, qP, va_K.moved (u := U) (U := U.calling g mk a) (Vm.Alike.refl U.vm) qK, qD⟩, va_recv hKc hPc (ci := 11) (q0 := 0) rfl rfl, fun U hU hW => ⟨rfl, by rw [hU], by rw [hU]; exact hPc, va_K.moved hW.alike hKc, hDc.weaken (fun _ _ _ _ => trivial)⟩⟩ rfl rfl hl.1 rfl (lv_room (Nat.le_of_ble_eq_true rfl)) dX12_size_15 ⟨Nat.le_of_ble_eq_true rfl, Nat.le_of_ble_eq_true rfl⟩) hS (fun q _ h => hFc q h) hFc (fun r_3 u_4 t H1 locs ht hvm hw hB hz1 hk1 hS => ?_)
    obtain ⟨hP1, hK1, hD1⟩ := hB
    rw [ht] at hP1
    have hK1 := va_K.moved hvm.symm hK1
    have hK := hK.app hK1
    obtain ⟨hP, hD⟩ := va_join (wr := []) (w1 := [(g0, .inr (11, mF a 0 0 1000 1))]) hP hD [0] [] rfl rfl (by decide) (by decide) hk1 hFc hP1 hD1
    generalize H1 = H at hP hS ⊢
    have hP : va_P (dC, dI) vwCl [(g0, .inr (11, mF a 0 0 1000 1))] H := hP
    have hD : va_D A [(g0, .inr (11, mF a 0 0 1000 1))] := hD
    have hK : va_K (dC, dI) vwCl [] s := hK
    refine W.widen (k := 0) (n := 0) (Nat.le_of_ble_eq_true rfl) (Nat.le_of_ble_eq_true rfl) ?_
    obtain rfl : r_3 = 0 := hw
    refine lv_i2l (v := 0) hx hb dX12_size_18 (by decide) ?_
    refine W.widen (k := 0) (n := 0) (Nat.le_of_ble_eq_true rfl) (Nat.le_of_ble_eq_true rfl) ?_
    have hP9 := hP.sub (ws' := [(g0, .inr (11, mF a 0 0 1000 1))]) [0] rfl
    have hD9 := hD.sub (ws' := [(g0, .inr (11, mF a 0 0 1000 1))]) [0] (by decide) rfl
    have hK9 := hK.sub (tys' := []) [] rfl
    exact W.lret (v := 0) hx hb hr (fun t ht hW => ⟨⟨0, (0, 0, 1000, 1), rfl, rfl, by rw [ht]; exact hP9, va_K.moved hW.alike hK9, hD9⟩, hS.F ht⟩) hS.2.2 dX12_size_19
set_option maxHeartbeats 4000000 in
set_option maxRecDepth 100000 in
theorem c_X12_fold (l : Launch) (dC : Nat → ClassId) (dI : Nat → Nat → Nat) (a : Nat → Nat) (g0 : Nat) (p0 : Int32) (p1 : Int32) (p2 : Int64) (sz : Nat) : Met l yX12_fold wsX12_fold ({ frames := 20, cells := 0, slots := 0, locals := 600 }) (va_Pc [.ref g0, .int p0, .int p1, .long p2] (fun U => U.heap.size = sz ∧ va_P (dC, dI) vwCl [(g0, .inr (11, mF a 0 0 1000 0))] U.heap ∧ va_K (dC, dI) vwCl [] U ∧ va_D (fun _ => True) [(g0, .inr (11, mF a 0 0 1000 0))])) (va_Ql (fun (r : Int64) (u : Int32 × Int32 × Int32 × Int32) => u.2.2.2 = 1) (fun (u : Int32 × Int32 × Int32 × Int32) (t : State) => va_P (dC, dI) vwCl [(g0, .inr (11, mF a u.1 u.2.1 u.2.2.1 u.2.2.2))] t.heap ∧ va_K (dC, dI) vwCl [] t ∧ va_D (va_A [(g0, .inr (11, mF a 0 0 1000 0))] sz) [(g0, .inr (11, mF a u.1 u.2.1 u.2.2.1 u.2.2.2))]) (va_A [(g0, .inr (11, mF a 0 0 1000 0))] sz)) 0 0 (va_A [(g0, .inr (11, mF a 0 0 1000 0))] sz) := by
  refine Met.ofW (cc := cX12_fold) (maxL := 9) (ret := (some .long)) (by decide) rfl ?_
  intro p e s m args below meth c s₁ B hml hv
  obtain ⟨rfl, hsz, hP, hK, hD0⟩ := hv
  have hx := B.exec
  have hb := B.bytes
  have hr := B.returns
  have hts := atoms_spec (ws := wsX12_fold) B.pre
  have hown : s.vm.findClass RX12 = some m.cls := findClass_of_methodNamed B.named
  have hlocks := B.notSynchronized
  subst hsz
  have hD := hD0.self (sz := s.heap.size)
  generalize hAe : va_A [(g0, .inr (11, mF a 0 0 1000 0))] s.heap.size = A at hD ⊢
  have hA : ∀ q : Nat, s.heap.size ≤ q → A q := fun q h => by rw [← hAe]; exact Or.inr h
  generalize hH : s.heap = H at hP ⊢
  have hS : va_S A s.heap H [] := by rw [← hH]; exact va_S.rf
  have hl := lv_entry [.ref g0, .int p0, .int p1, .long p2] (n := 9) (Nat.le_of_ble_eq_true rfl)
  rw [lg_entry_eq]
  generalize (lg_sl [.ref g0, .int p0, .int p1, .long p2] ++ List.replicate (9 - (lg_sl [.ref g0, .int p0, .int p1, .long p2]).length) Slot.unset).toArray = ls at hl ⊢
  have hl : lv_has ls 9 [(0, .ref g0), (1, .int p0), (2, .int p1), (3, .long p2)] := hl
  have hP : va_P (dC, dI) vwCl [(g0, .inr (11, mF a 0 0 1000 0))] H := hP
  refine lv_aload_n hx hb dX12_fold_0 rfl (lv_at hl 0 rfl) ?_
  refine lv_iconst (v := 0) hx hb dX12_fold_1 (by decide) ?_
  refine va_put (D := (dC, dI)) (ci := 11) (v := .int 0) (ty := .int) (C := RX12) (T := TX12) (N := 32) hx hb hts (by decide +kernel) tyX12 tyX12_ok nmX12 hown hK hP hD hS 0 rfl rfl 19 (by decide) (hts (.fieldLink RX12 63 "NeededListsModel" "thrown" "I") (by decide +kernel)) (fun _ h9 => h9) rfl (by decide +kernel) rfl rfl (Nat.le_of_ble_eq_true rfl) dX12_fold_2 (fun H locs hP hD hS => ?_)
  have hP : va_P (dC, dI) vwCl [(g0, .inr (11, mF a 0 0 1000 0))] H := hP
  have hD : va_D A [(g0, .inr (11, mF a 0 0 1000 0))] := hD
  refine lv_aload_n hx hb dX12_fold_5 rfl (lv_at hl 0 rfl) ?_
  refine lv_iload_n hx hb dX12_fold_6 rfl (lv_at hl 1 rfl) ?_
  have hPc := hP.sub (ws' := [(g0, .inr (11, mF a 0 0 1000 0))]) [0] rfl
  have hDc : va_D (fun _ => True) ([] : va_W) := nd_0
  have hKc := hK.sub (tys' := []) [] rfl
  have hFc := va_free (wc := []) hD hS hA [] rfl
  refine va_calli (va_runV (As := [.int p0]) (rest := []) ⟨hx, hb, hml, hown, hts⟩ (c_X12_isList l dC dI a g0 0 1000 0 p0 H.size) (cwV 1 hts gX12_fold_X12_isList rfl rfl rfl (by decide +kernel) ⟨Nat.le_of_ble_eq_true rfl, Nat.le_of_ble_eq_true rfl⟩) ⟨fun a U g mk q => by obtain ⟨q0, q1, qP, qK, qD⟩ := q; exact ⟨q0, q1, qP, va_K.moved (u := U) (U := U.calling g mk a) (Vm.Alike.refl U.vm) qK, qD⟩, va_recv hKc hPc (ci := 11) (q0 := 0) rfl rfl, fun U hU hW => ⟨rfl, by rw [hU], by rw [hU]; exact hPc, va_K.moved hW.alike hKc, hDc.weaken (fun _ _ _ _ => trivial)⟩⟩ rfl rfl hl.1 rfl (lv_room (Nat.le_of_ble_eq_true rfl)) dX12_fold_7 ⟨Nat.le_of_ble_eq_true rfl, Nat.le_of_ble_eq_true rfl⟩) hS (fun q _ h => hFc q h) hFc (fun r_1 u_2 t H1 locs ht hvm hw hB hz1 hk1 hS => ?_)
  have hP := nd_keep hP hk1
  generalize H1 = H at hP hS ⊢
  have hP : va_P (dC, dI) vwCl [(g0, .inr (11, mF a 0 0 1000 0))] H := hP
  have hD : va_D A [(g0, .inr (11, mF a 0 0 1000 0))] := hD
  refine W.widen (k := 0) (n := 0) (Nat.le_of_ble_eq_true rfl) (Nat.le_of_ble_eq_true rfl) ?_
  obtain rfl : r_1 = 0 := hw
  refine lv_if_ne (tgt := 20) hx hb dX12_fold_10 (by decide) (fun c_10 => ?_) (fun c_10 => ?_)
  · exact absurd c_10 (by decide)
  · refine lv_aload_n hx hb dX12_fold_13 rfl (lv_at hl 0 rfl) ?_
    refine lv_iconst (v := 1) hx hb dX12_fold_14 (by decide) ?_
    have hPc := hP.sub (ws' := [(g0, .inr (11, mF a 0 0 1000 0))]) [0] rfl
    have hDc := hD.sub (ws' := [(g0, .inr (11, mF a 0 0 1000 0))]) [0] (by decide) rfl
    have hKc := hK.sub (tys' := []) [] rfl
    have hFc := va_free (wc := [(g0, .inr (11, mF a 0 0 1000 0))]) hD hS hA [0] rfl
    refine va_calli (va_runV (As := [.int 1]) (rest := []) ⟨hx, hb, hml, hown, hts⟩ (c_X12_fail l dC dI a g0 0 0 1000 0 1 H.size) (cwV 1 hts gX12_fold_X12_fail rfl rfl rfl (by decide +kernel) ⟨Nat.le_of_ble_eq_true rfl, Nat.le_of_ble_eq_true rfl⟩) ⟨fun a U g mk q => by obtain ⟨q0, q1, qP, qK, qD⟩ := q; exact ⟨q0, q1, qP, va_K.moved (u := U) (U := U.calling g mk a) (Vm.Alike.refl U.vm) qK, qD⟩, va_recv hKc hPc (ci := 11) (q0 := 0) rfl rfl, fun U hU hW => ⟨rfl, by rw [hU], by rw [hU]; exact hPc, va_K.moved hW.alike hKc, hDc.weaken (fun _ _ _ _ => trivial)⟩⟩ rfl rfl hl.1 rfl (lv_room (Nat.le_of_ble_eq_true rfl)) dX12_fold_15 ⟨Nat.le_of_ble_eq_true rfl, Nat.le_of_ble_eq_true rfl⟩) hS (fun q _ h => hFc q h) hFc (fun r_3 u_4 t H1 locs ht hvm hw hB hz1 hk1 hS => ?_)
    obtain ⟨hP1, hK1, hD1⟩ := hB
    rw [ht] at hP1
    have hK1 := va_K.moved hvm.symm hK1
    have hK := hK.app hK1
    obtain ⟨hP, hD⟩ := va_join (wr := []) (w1 := [(g0, .inr (11, mF a 0 0 1000 1))]) hP hD [0] [] rfl rfl (by decide) (by decide) hk1 hFc hP1 hD1
    generalize H1 = H at hP hS ⊢
    have hP : va_P (dC, dI) vwCl [(g0, .inr (11, mF a 0 0 1000 1))] H := hP
    have hD : va_D A [(g0, .inr (11, mF a 0 0 1000 1))] := hD
    have hK : va_K (dC, dI) vwCl [] s := hK
    refine W.widen (k := 0) (n := 0) (Nat.le_of_ble_eq_true rfl) (Nat.le_of_ble_eq_true rfl) ?_
    obtain rfl : r_3 = 0 := hw
    refine lv_i2l (v := 0) hx hb dX12_fold_18 (by decide) ?_
    refine W.widen (k := 0) (n := 0) (Nat.le_of_ble_eq_true rfl) (Nat.le_of_ble_eq_true rfl) ?_
    have hP9 := hP.sub (ws' := [(g0, .inr (11, mF a 0 0 1000 1))]) [0] rfl
    have hD9 := hD.sub (ws' := [(g0, .inr (11, mF a 0 0 1000 1))]) [0] (by decide) rfl
    have hK9 := hK.sub (tys' := []) [] rfl
    exact W.lret (v := 0) hx hb hr (fun t ht hW => ⟨⟨0, (0, 0, 1000, 1), rfl, rfl, by rw [ht]; exact hP9, va_K.moved hW.alike hK9, hD9⟩, hS.F ht⟩) hS.2.2 dX12_fold_19
set_option maxHeartbeats 4000000 in
set_option maxRecDepth 100000 in
theorem c_X12_find (l : Launch) (dC : Nat → ClassId) (dI : Nat → Nat → Nat) (a : Nat → Nat) (g0 : Nat) (p0 : Int32) (p1 : Int32) (p2 : Int64) (sz : Nat) : Met l yX12_find wsX12_find ({ frames := 20, cells := 0, slots := 0, locals := 600 }) (va_Pc [.ref g0, .int p0, .int p1, .long p2] (fun U => U.heap.size = sz ∧ va_P (dC, dI) vwCl [(g0, .inr (11, mF a 0 0 1000 0))] U.heap ∧ va_K (dC, dI) vwCl [] U ∧ va_D (fun _ => True) [(g0, .inr (11, mF a 0 0 1000 0))])) (va_Ql (fun (r : Int64) (u : Int32 × Int32 × Int32 × Int32) => u.2.2.2 = 1) (fun (u : Int32 × Int32 × Int32 × Int32) (t : State) => va_P (dC, dI) vwCl [(g0, .inr (11, mF a u.1 u.2.1 u.2.2.1 u.2.2.2))] t.heap ∧ va_K (dC, dI) vwCl [] t ∧ va_D (va_A [(g0, .inr (11, mF a 0 0 1000 0))] sz) [(g0, .inr (11, mF a u.1 u.2.1 u.2.2.1 u.2.2.2))]) (va_A [(g0, .inr (11, mF a 0 0 1000 0))] sz)) 0 0 (va_A [(g0, .inr (11, mF a 0 0 1000 0))] sz) := by
  refine Met.ofW (cc := cX12_find) (maxL := 7) (ret := (some .long)) (by decide) rfl ?_
  intro p e s m args below meth c s₁ B hml hv
  obtain ⟨rfl, hsz, hP, hK, hD0⟩ := hv
  have hx := B.exec
  have hb := B.bytes
  have hr := B.returns
  have hts := atoms_spec (ws := wsX12_find) B.pre
  have hown : s.vm.findClass RX12 = some m.cls := findClass_of_methodNamed B.named
  have hlocks := B.notSynchronized
  subst hsz
  have hD := hD0.self (sz := s.heap.size)
  generalize hAe : va_A [(g0, .inr (11, mF a 0 0 1000 0))] s.heap.size = A at hD ⊢
  have hA : ∀ q : Nat, s.heap.size ≤ q → A q := fun q h => by rw [← hAe]; exact Or.inr h
  generalize hH : s.heap = H at hP ⊢
  have hS : va_S A s.heap H [] := by rw [← hH]; exact va_S.rf
  have hl := lv_entry [.ref g0, .int p0, .int p1, .long p2] (n := 7) (Nat.le_of_ble_eq_true rfl)
  rw [lg_entry_eq]
  generalize (lg_sl [.ref g0, .int p0, .int p1, .long p2] ++ List.replicate (7 - (lg_sl [.ref g0, .int p0, .int p1, .long p2]).length) Slot.unset).toArray = ls at hl ⊢
  have hl : lv_has ls 7 [(0, .ref g0), (1, .int p0), (2, .int p1), (3, .long p2)] := hl
  have hP : va_P (dC, dI) vwCl [(g0, .inr (11, mF a 0 0 1000 0))] H := hP
  refine lv_aload_n hx hb dX12_find_0 rfl (lv_at hl 0 rfl) ?_
  refine lv_iconst (v := 0) hx hb dX12_find_1 (by decide) ?_
  refine va_put (D := (dC, dI)) (ci := 11) (v := .int 0) (ty := .int) (C := RX12) (T := TX12) (N := 32) hx hb hts (by decide +kernel) tyX12 tyX12_ok nmX12 hown hK hP hD hS 0 rfl rfl 19 (by decide) (hts (.fieldLink RX12 63 "NeededListsModel" "thrown" "I") (by decide +kernel)) (fun _ h9 => h9) rfl (by decide +kernel) rfl rfl (Nat.le_of_ble_eq_true rfl) dX12_find_2 (fun H locs hP hD hS => ?_)
  have hP : va_P (dC, dI) vwCl [(g0, .inr (11, mF a 0 0 1000 0))] H := hP
  have hD : va_D A [(g0, .inr (11, mF a 0 0 1000 0))] := hD
  refine lv_aload_n hx hb dX12_find_5 rfl (lv_at hl 0 rfl) ?_
  refine lv_iload_n hx hb dX12_find_6 rfl (lv_at hl 1 rfl) ?_
  have hPc := hP.sub (ws' := [(g0, .inr (11, mF a 0 0 1000 0))]) [0] rfl
  have hDc : va_D (fun _ => True) ([] : va_W) := nd_0
  have hKc := hK.sub (tys' := []) [] rfl
  have hFc := va_free (wc := []) hD hS hA [] rfl
  refine va_calli (va_runV (As := [.int p0]) (rest := []) ⟨hx, hb, hml, hown, hts⟩ (c_X12_isList l dC dI a g0 0 1000 0 p0 H.size) (cwV 1 hts gX12_find_X12_isList rfl rfl rfl (by decide +kernel) ⟨Nat.le_of_ble_eq_true rfl, Nat.le_of_ble_eq_true rfl⟩) ⟨fun a U g mk q => by obtain ⟨q0, q1, qP, qK, qD⟩ := q; exact ⟨q0, q1, qP, va_K.moved (u := U) (U := U.calling g mk a) (Vm.Alike.refl U.vm) qK, qD⟩, va_recv hKc hPc (ci := 11) (q0 := 0) rfl rfl, fun U hU hW => ⟨rfl, by rw [hU], by rw [hU]; exact hPc, va_K.moved hW.alike hKc, hDc.weaken (fun _ _ _ _ => trivial)⟩⟩ rfl rfl hl.1 rfl (lv_room (Nat.le_of_ble_eq_true rfl)) dX12_find_7 ⟨Nat.le_of_ble_eq_true rfl, Nat.le_of_ble_eq_true rfl⟩) hS (fun q _ h => hFc q h) hFc (fun r_1 u_2 t H1 locs ht hvm hw hB hz1 hk1 hS => ?_)
  have hP := nd_keep hP hk1
  generalize H1 = H at hP hS ⊢
  have hP : va_P (dC, dI) vwCl [(g0, .inr (11, mF a 0 0 1000 0))] H := hP
  have hD : va_D A [(g0, .inr (11, mF a 0 0 1000 0))] := hD
  refine W.widen (k := 0) (n := 0) (Nat.le_of_ble_eq_true rfl) (Nat.le_of_ble_eq_true rfl) ?_
  obtain rfl : r_1 = 0 := hw
  refine lv_if_ne (tgt := 20) hx hb dX12_find_10 (by decide) (fun c_10 => ?_) (fun c_10 => ?_)
  · exact absurd c_10 (by decide)
  · refine lv_aload_n hx hb dX12_find_13 rfl (lv_at hl 0 rfl) ?_
    refine lv_iconst (v := 1) hx hb dX12_find_14 (by decide) ?_
    have hPc := hP.sub (ws' := [(g0, .inr (11, mF a 0 0 1000 0))]) [0] rfl
    have hDc := hD.sub (ws' := [(g0, .inr (11, mF a 0 0 1000 0))]) [0] (by decide) rfl
    have hKc := hK.sub (tys' := []) [] rfl
    have hFc := va_free (wc := [(g0, .inr (11, mF a 0 0 1000 0))]) hD hS hA [0] rfl
    refine va_calli (va_runV (As := [.int 1]) (rest := []) ⟨hx, hb, hml, hown, hts⟩ (c_X12_fail l dC dI a g0 0 0 1000 0 1 H.size) (cwV 1 hts gX12_find_X12_fail rfl rfl rfl (by decide +kernel) ⟨Nat.le_of_ble_eq_true rfl, Nat.le_of_ble_eq_true rfl⟩) ⟨fun a U g mk q => by obtain ⟨q0, q1, qP, qK, qD⟩ := q; exact ⟨q0, q1, qP, va_K.moved (u := U) (U := U.calling g mk a) (Vm.Alike.refl U.vm) qK, qD⟩, va_recv hKc hPc (ci := 11) (q0 := 0) rfl rfl, fun U hU hW => ⟨rfl, by rw [hU], by rw [hU]; exact hPc, va_K.moved hW.alike hKc, hDc.weaken (fun _ _ _ _ => trivial)⟩⟩ rfl rfl hl.1 rfl (lv_room (Nat.le_of_ble_eq_true rfl)) dX12_find_15 ⟨Nat.le_of_ble_eq_true rfl, Nat.le_of_ble_eq_true rfl⟩) hS (fun q _ h => hFc q h) hFc (fun r_3 u_4 t H1 locs ht hvm hw hB hz1 hk1 hS => ?_)
    obtain ⟨hP1, hK1, hD1⟩ := hB
    rw [ht] at hP1
    have hK1 := va_K.moved hvm.symm hK1
    have hK := hK.app hK1
    obtain ⟨hP, hD⟩ := va_join (wr := []) (w1 := [(g0, .inr (11, mF a 0 0 1000 1))]) hP hD [0] [] rfl rfl (by decide) (by decide) hk1 hFc hP1 hD1
    generalize H1 = H at hP hS ⊢
    have hP : va_P (dC, dI) vwCl [(g0, .inr (11, mF a 0 0 1000 1))] H := hP
    have hD : va_D A [(g0, .inr (11, mF a 0 0 1000 1))] := hD
    have hK : va_K (dC, dI) vwCl [] s := hK
    refine W.widen (k := 0) (n := 0) (Nat.le_of_ble_eq_true rfl) (Nat.le_of_ble_eq_true rfl) ?_
    obtain rfl : r_3 = 0 := hw
    refine lv_i2l (v := 0) hx hb dX12_find_18 (by decide) ?_
    refine W.widen (k := 0) (n := 0) (Nat.le_of_ble_eq_true rfl) (Nat.le_of_ble_eq_true rfl) ?_
    have hP9 := hP.sub (ws' := [(g0, .inr (11, mF a 0 0 1000 1))]) [0] rfl
    have hD9 := hD.sub (ws' := [(g0, .inr (11, mF a 0 0 1000 1))]) [0] (by decide) rfl
    have hK9 := hK.sub (tys' := []) [] rfl
    exact W.lret (v := 0) hx hb hr (fun t ht hW => ⟨⟨0, (0, 0, 1000, 1), rfl, rfl, by rw [ht]; exact hP9, va_K.moved hW.alike hK9, hD9⟩, hS.F ht⟩) hS.2.2 dX12_find_19
set_option maxHeartbeats 4000000 in
set_option maxRecDepth 100000 in
theorem c_X12_last (l : Launch) (dC : Nat → ClassId) (dI : Nat → Nat → Nat) (a : Nat → Nat) (g0 : Nat) (p0 : Int32) (sz : Nat) : Met l yX12_last wsX12_last ({ frames := 20, cells := 0, slots := 0, locals := 600 }) (va_Pc [.ref g0, .int p0] (fun U => U.heap.size = sz ∧ va_P (dC, dI) vwCl [(g0, .inr (11, mF a 0 0 1000 0))] U.heap ∧ va_K (dC, dI) vwCl [] U ∧ va_D (fun _ => True) [(g0, .inr (11, mF a 0 0 1000 0))])) (va_Ql (fun (r : Int64) (u : Int32 × Int32 × Int32 × Int32) => u.2.2.2 = 1) (fun (u : Int32 × Int32 × Int32 × Int32) (t : State) => va_P (dC, dI) vwCl [(g0, .inr (11, mF a u.1 u.2.1 u.2.2.1 u.2.2.2))] t.heap ∧ va_K (dC, dI) vwCl [] t ∧ va_D (va_A [(g0, .inr (11, mF a 0 0 1000 0))] sz) [(g0, .inr (11, mF a u.1 u.2.1 u.2.2.1 u.2.2.2))]) (va_A [(g0, .inr (11, mF a 0 0 1000 0))] sz)) 0 0 (va_A [(g0, .inr (11, mF a 0 0 1000 0))] sz) := by
  refine Met.ofW (cc := cX12_last) (maxL := 4) (ret := (some .long)) (by decide) rfl ?_
  intro p e s m args below meth c s₁ B hml hv
  obtain ⟨rfl, hsz, hP, hK, hD0⟩ := hv
  have hx := B.exec
  have hb := B.bytes
  have hr := B.returns
  have hts := atoms_spec (ws := wsX12_last) B.pre
  have hown : s.vm.findClass RX12 = some m.cls := findClass_of_methodNamed B.named
  have hlocks := B.notSynchronized
  subst hsz
  have hD := hD0.self (sz := s.heap.size)
  generalize hAe : va_A [(g0, .inr (11, mF a 0 0 1000 0))] s.heap.size = A at hD ⊢
  have hA : ∀ q : Nat, s.heap.size ≤ q → A q := fun q h => by rw [← hAe]; exact Or.inr h
  generalize hH : s.heap = H at hP ⊢
  have hS : va_S A s.heap H [] := by rw [← hH]; exact va_S.rf
  have hl := lv_entry [.ref g0, .int p0] (n := 4) (Nat.le_of_ble_eq_true rfl)
  rw [lg_entry_eq]
  generalize (lg_sl [.ref g0, .int p0] ++ List.replicate (4 - (lg_sl [.ref g0, .int p0]).length) Slot.unset).toArray = ls at hl ⊢
  have hl : lv_has ls 4 [(0, .ref g0), (1, .int p0)] := hl
  have hP : va_P (dC, dI) vwCl [(g0, .inr (11, mF a 0 0 1000 0))] H := hP
  refine lv_aload_n hx hb dX12_last_0 rfl (lv_at hl 0 rfl) ?_
  refine lv_iconst (v := 0) hx hb dX12_last_1 (by decide) ?_
  refine va_put (D := (dC, dI)) (ci := 11) (v := .int 0) (ty := .int) (C := RX12) (T := TX12) (N := 32) hx hb hts (by decide +kernel) tyX12 tyX12_ok nmX12 hown hK hP hD hS 0 rfl rfl 19 (by decide) (hts (.fieldLink RX12 63 "NeededListsModel" "thrown" "I") (by decide +kernel)) (fun _ h9 => h9) rfl (by decide +kernel) rfl rfl (Nat.le_of_ble_eq_true rfl) dX12_last_2 (fun H locs hP hD hS => ?_)
  have hP : va_P (dC, dI) vwCl [(g0, .inr (11, mF a 0 0 1000 0))] H := hP
  have hD : va_D A [(g0, .inr (11, mF a 0 0 1000 0))] := hD
  refine lv_aload_n hx hb dX12_last_5 rfl (lv_at hl 0 rfl) ?_
  refine lv_iload_n hx hb dX12_last_6 rfl (lv_at hl 1 rfl) ?_
  have hPc := hP.sub (ws' := [(g0, .inr (11, mF a 0 0 1000 0))]) [0] rfl
  have hDc : va_D (fun _ => True) ([] : va_W) := nd_0
  have hKc := hK.sub (tys' := []) [] rfl
  have hFc := va_free (wc := []) hD hS hA [] rfl
  refine va_calli (va_runV (As := [.int p0]) (rest := []) ⟨hx, hb, hml, hown, hts⟩ (c_X12_isList l dC dI a g0 0 1000 0 p0 H.size) (cwV 1 hts gX12_last_X12_isList rfl rfl rfl (by decide +kernel) ⟨Nat.le_of_ble_eq_true rfl, Nat.le_of_ble_eq_true rfl⟩) ⟨fun a U g mk q => by obtain ⟨q0, q1, qP, qK, qD⟩ := q; exact ⟨q0, q1, qP, va_K.moved (u := U) (U := U.calling g mk a) (Vm.Alike.refl U.vm) qK, qD⟩, va_recv hKc hPc (ci := 11) (q0 := 0) rfl rfl, fun U hU hW => ⟨rfl, by rw [hU], by rw [hU]; exact hPc, va_K.moved hW.alike hKc, hDc.weaken (fun _ _ _ _ => trivial)⟩⟩ rfl rfl hl.1 rfl (lv_room (Nat.le_of_ble_eq_true rfl)) dX12_last_7 ⟨Nat.le_of_ble_eq_true rfl, Nat.le_of_ble_eq_true rfl⟩) hS (fun q _ h => hFc q h) hFc (fun r_1 u_2 t H1 locs ht hvm hw hB hz1 hk1 hS => ?_)
  have hP := nd_keep hP hk1
  generalize H1 = H at hP hS ⊢
  have hP : va_P (dC, dI) vwCl [(g0, .inr (11, mF a 0 0 1000 0))] H := hP
  have hD : va_D A [(g0, .inr (11, mF a 0 0 1000 0))] := hD
  refine W.widen (k := 0) (n := 0) (Nat.le_of_ble_eq_true rfl) (Nat.le_of_ble_eq_true rfl) ?_
  obtain rfl : r_1 = 0 := hw
  refine lv_if_ne (tgt := 20) hx hb dX12_last_10 (by decide) (fun c_10 => ?_) (fun c_10 => ?_)
  · exact absurd c_10 (by decide)
  · refine lv_aload_n hx hb dX12_last_13 rfl (lv_at hl 0 rfl) ?_
    refine lv_iconst (v := 1) hx hb dX12_last_14 (by decide) ?_
    have hPc := hP.sub (ws' := [(g0, .inr (11, mF a 0 0 1000 0))]) [0] rfl
    have hDc := hD.sub (ws' := [(g0, .inr (11, mF a 0 0 1000 0))]) [0] (by decide) rfl
    have hKc := hK.sub (tys' := []) [] rfl
    have hFc := va_free (wc := [(g0, .inr (11, mF a 0 0 1000 0))]) hD hS hA [0] rfl
    refine va_calli (va_runV (As := [.int 1]) (rest := []) ⟨hx, hb, hml, hown, hts⟩ (c_X12_fail l dC dI a g0 0 0 1000 0 1 H.size) (cwV 1 hts gX12_last_X12_fail rfl rfl rfl (by decide +kernel) ⟨Nat.le_of_ble_eq_true rfl, Nat.le_of_ble_eq_true rfl⟩) ⟨fun a U g mk q => by obtain ⟨q0, q1, qP, qK, qD⟩ := q; exact ⟨q0, q1, qP, va_K.moved (u := U) (U := U.calling g mk a) (Vm.Alike.refl U.vm) qK, qD⟩, va_recv hKc hPc (ci := 11) (q0 := 0) rfl rfl, fun U hU hW => ⟨rfl, by rw [hU], by rw [hU]; exact hPc, va_K.moved hW.alike hKc, hDc.weaken (fun _ _ _ _ => trivial)⟩⟩ rfl rfl hl.1 rfl (lv_room (Nat.le_of_ble_eq_true rfl)) dX12_last_15 ⟨Nat.le_of_ble_eq_true rfl, Nat.le_of_ble_eq_true rfl⟩) hS (fun q _ h => hFc q h) hFc (fun r_3 u_4 t H1 locs ht hvm hw hB hz1 hk1 hS => ?_)
    obtain ⟨hP1, hK1, hD1⟩ := hB
    rw [ht] at hP1
    have hK1 := va_K.moved hvm.symm hK1
    have hK := hK.app hK1
    obtain ⟨hP, hD⟩ := va_join (wr := []) (w1 := [(g0, .inr (11, mF a 0 0 1000 1))]) hP hD [0] [] rfl rfl (by decide) (by decide) hk1 hFc hP1 hD1
    generalize H1 = H at hP hS ⊢
    have hP : va_P (dC, dI) vwCl [(g0, .inr (11, mF a 0 0 1000 1))] H := hP
    have hD : va_D A [(g0, .inr (11, mF a 0 0 1000 1))] := hD
    have hK : va_K (dC, dI) vwCl [] s := hK
    refine W.widen (k := 0) (n := 0) (Nat.le_of_ble_eq_true rfl) (Nat.le_of_ble_eq_true rfl) ?_
    obtain rfl : r_3 = 0 := hw
    refine lv_i2l (v := 0) hx hb dX12_last_18 (by decide) ?_
    refine W.widen (k := 0) (n := 0) (Nat.le_of_ble_eq_true rfl) (Nat.le_of_ble_eq_true rfl) ?_
    have hP9 := hP.sub (ws' := [(g0, .inr (11, mF a 0 0 1000 1))]) [0] rfl
    have hD9 := hD.sub (ws' := [(g0, .inr (11, mF a 0 0 1000 1))]) [0] (by decide) rfl
    have hK9 := hK.sub (tys' := []) [] rfl
    exact W.lret (v := 0) hx hb hr (fun t ht hW => ⟨⟨0, (0, 0, 1000, 1), rfl, rfl, by rw [ht]; exact hP9, va_K.moved hW.alike hK9, hD9⟩, hS.F ht⟩) hS.2.2 dX12_last_19
set_option maxHeartbeats 4000000 in
set_option maxRecDepth 100000 in
theorem c_X12_some (l : Launch) (dC : Nat → ClassId) (dI : Nat → Nat → Nat) (a : Nat → Nat) (g0 : Nat) (p0 : Int32) (p1 : Int32) (p2 : Int32) (sz : Nat) : Met l yX12_some wsX12_some ({ frames := 20, cells := 0, slots := 0, locals := 600 }) (va_Pc [.ref g0, .int p0, .int p1, .int p2] (fun U => U.heap.size = sz ∧ va_P (dC, dI) vwCl [(g0, .inr (11, mF a 0 0 1000 0))] U.heap ∧ va_K (dC, dI) vwCl [] U ∧ va_D (fun _ => True) [(g0, .inr (11, mF a 0 0 1000 0))])) (va_Qi (fun (r : Int32) (_ : Unit) => r = 0) (fun (u : Unit) (t : State) => va_P (dC, dI) vwCl [(g0, .inr (11, mF a 0 0 1000 1))] t.heap ∧ va_K (dC, dI) vwCl [] t ∧ va_D (va_A [(g0, .inr (11, mF a 0 0 1000 0))] sz) [(g0, .inr (11, mF a 0 0 1000 1))]) (va_A [(g0, .inr (11, mF a 0 0 1000 0))] sz)) 0 0 (va_A [(g0, .inr (11, mF a 0 0 1000 0))] sz) := by
  refine Met.ofW (cc := cX12_some) (maxL := 4) (ret := (some .int)) (by decide) rfl ?_
  intro p e s m args below meth c s₁ B hml hv
  obtain ⟨rfl, hsz, hP, hK, hD0⟩ := hv
  have hx := B.exec
  have hb := B.bytes
  have hr := B.returns
  have hts := atoms_spec (ws := wsX12_some) B.pre
  have hown : s.vm.findClass RX12 = some m.cls := findClass_of_methodNamed B.named
  have hlocks := B.notSynchronized
  subst hsz
  have hD := hD0.self (sz := s.heap.size)
  generalize hAe : va_A [(g0, .inr (11, mF a 0 0 1000 0))] s.heap.size = A at hD ⊢
  have hA : ∀ q : Nat, s.heap.size ≤ q → A q := fun q h => by rw [← hAe]; exact Or.inr h
  generalize hH : s.heap = H at hP ⊢
  have hS : va_S A s.heap H [] := by rw [← hH]; exact va_S.rf
  have hl := lv_entry [.ref g0, .int p0, .int p1, .int p2] (n := 4) (Nat.le_of_ble_eq_true rfl)
  rw [lg_entry_eq]
  generalize (lg_sl [.ref g0, .int p0, .int p1, .int p2] ++ List.replicate (4 - (lg_sl [.ref g0, .int p0, .int p1, .int p2]).length) Slot.unset).toArray = ls at hl ⊢
  have hl : lv_has ls 4 [(0, .ref g0), (1, .int p0), (2, .int p1), (3, .int p2)] := hl
  have hP : va_P (dC, dI) vwCl [(g0, .inr (11, mF a 0 0 1000 0))] H := hP
  refine lv_aload_n hx hb dX12_some_0 rfl (lv_at hl 0 rfl) ?_
  refine lv_iload_n hx hb dX12_some_1 rfl (lv_at hl 2 rfl) ?_
  have hPc := hP.sub (ws' := [(g0, .inr (11, mF a 0 0 1000 0))]) [0] rfl
  have hDc : va_D (fun _ => True) ([] : va_W) := nd_0
  have hKc := hK.sub (tys' := []) [] rfl
  have hFc := va_free (wc := []) hD hS hA [] rfl
  refine va_calli (va_runV (As := [.int p1]) (rest := []) ⟨hx, hb, hml, hown, hts⟩ (c_X12_isList l dC dI a g0 0 1000 0 p1 H.size) (cwV 1 hts gX12_some_X12_isList rfl rfl rfl (by decide +kernel) ⟨Nat.le_of_ble_eq_true rfl, Nat.le_of_ble_eq_true rfl⟩) ⟨fun a U g mk q => by obtain ⟨q0, q1, qP, qK, qD⟩ := q; exact ⟨q0, q1, qP, va_K.moved (u := U) (U := U.calling g mk a) (Vm.Alike.refl U.vm) qK, qD⟩, va_recv hKc hPc (ci := 11) (q0 := 0) rfl rfl, fun U hU hW => ⟨rfl, by rw [hU], by rw [hU]; exact hPc, va_K.moved hW.alike hKc, hDc.weaken (fun _ _ _ _ => trivial)⟩⟩ rfl rfl hl.1 rfl (lv_room (Nat.le_of_ble_eq_true rfl)) dX12_some_2 ⟨Nat.le_of_ble_eq_true rfl, Nat.le_of_ble_eq_true rfl⟩) hS (fun q _ h => hFc q h) hFc (fun r_1 u_2 t H1 locs ht hvm hw hB hz1 hk1 hS => ?_)
  have hP := nd_keep hP hk1
  generalize H1 = H at hP hS ⊢
  have hP : va_P (dC, dI) vwCl [(g0, .inr (11, mF a 0 0 1000 0))] H := hP
  have hD : va_D A [(g0, .inr (11, mF a 0 0 1000 0))] := hD
  refine W.widen (k := 0) (n := 0) (Nat.le_of_ble_eq_true rfl) (Nat.le_of_ble_eq_true rfl) ?_
  obtain rfl : r_1 = 0 := hw
  refine lv_if_ne (tgt := 14) hx hb dX12_some_5 (by decide) (fun c_5 => ?_) (fun c_5 => ?_)
  · exact absurd c_5 (by decide)
  · refine lv_aload_n hx hb dX12_some_8 rfl (lv_at hl 0 rfl) ?_
    refine lv_iconst (v := 1) hx hb dX12_some_9 (by decide) ?_
    have hPc := hP.sub (ws' := [(g0, .inr (11, mF a 0 0 1000 0))]) [0] rfl
    have hDc := hD.sub (ws' := [(g0, .inr (11, mF a 0 0 1000 0))]) [0] (by decide) rfl
    have hKc := hK.sub (tys' := []) [] rfl
    have hFc := va_free (wc := [(g0, .inr (11, mF a 0 0 1000 0))]) hD hS hA [0] rfl
    refine va_calli (va_runV (As := [.int 1]) (rest := []) ⟨hx, hb, hml, hown, hts⟩ (c_X12_fail l dC dI a g0 0 0 1000 0 1 H.size) (cwV 1 hts gX12_some_X12_fail rfl rfl rfl (by decide +kernel) ⟨Nat.le_of_ble_eq_true rfl, Nat.le_of_ble_eq_true rfl⟩) ⟨fun a U g mk q => by obtain ⟨q0, q1, qP, qK, qD⟩ := q; exact ⟨q0, q1, qP, va_K.moved (u := U) (U := U.calling g mk a) (Vm.Alike.refl U.vm) qK, qD⟩, va_recv hKc hPc (ci := 11) (q0 := 0) rfl rfl, fun U hU hW => ⟨rfl, by rw [hU], by rw [hU]; exact hPc, va_K.moved hW.alike hKc, hDc.weaken (fun _ _ _ _ => trivial)⟩⟩ rfl rfl hl.1 rfl (lv_room (Nat.le_of_ble_eq_true rfl)) dX12_some_10 ⟨Nat.le_of_ble_eq_true rfl, Nat.le_of_ble_eq_true rfl⟩) hS (fun q _ h => hFc q h) hFc (fun r_3 u_4 t H1 locs ht hvm hw hB hz1 hk1 hS => ?_)
    obtain ⟨hP1, hK1, hD1⟩ := hB
    rw [ht] at hP1
    have hK1 := va_K.moved hvm.symm hK1
    have hK := hK.app hK1
    obtain ⟨hP, hD⟩ := va_join (wr := []) (w1 := [(g0, .inr (11, mF a 0 0 1000 1))]) hP hD [0] [] rfl rfl (by decide) (by decide) hk1 hFc hP1 hD1
    generalize H1 = H at hP hS ⊢
    have hP : va_P (dC, dI) vwCl [(g0, .inr (11, mF a 0 0 1000 1))] H := hP
    have hD : va_D A [(g0, .inr (11, mF a 0 0 1000 1))] := hD
    have hK : va_K (dC, dI) vwCl [] s := hK
    refine W.widen (k := 0) (n := 0) (Nat.le_of_ble_eq_true rfl) (Nat.le_of_ble_eq_true rfl) ?_
    obtain rfl : r_3 = 0 := hw
    refine W.widen (k := 0) (n := 0) (Nat.le_of_ble_eq_true rfl) (Nat.le_of_ble_eq_true rfl) ?_
    have hP9 := hP.sub (ws' := [(g0, .inr (11, mF a 0 0 1000 1))]) [0] rfl
    have hD9 := hD.sub (ws' := [(g0, .inr (11, mF a 0 0 1000 1))]) [0] (by decide) rfl
    have hK9 := hK.sub (tys' := []) [] rfl
    exact W.iret (v := 0) hx hb hr (fun t ht hW => ⟨⟨0, (), rfl, rfl, by rw [ht]; exact hP9, va_K.moved hW.alike hK9, hD9⟩, hS.F ht⟩) hS.2.2 dX12_some_13
set_option maxHeartbeats 4000000 in
set_option maxRecDepth 100000 in
theorem c_X12_by (l : Launch) (dC : Nat → ClassId) (dI : Nat → Nat → Nat) (a : Nat → Nat) (g0 : Nat) (p0 : Int32) (p1 : Int32) (p2 : Int32) (p3 : Int64) (sz : Nat) : Met l yX12_by wsX12_by ({ frames := 20, cells := 0, slots := 0, locals := 600 }) (va_Pc [.ref g0, .int p0, .int p1, .int p2, .long p3] (fun U => U.heap.size = sz ∧ va_P (dC, dI) vwCl [(g0, .inr (11, mF a 0 0 1000 0))] U.heap ∧ va_K (dC, dI) vwCl [] U ∧ va_D (fun _ => True) [(g0, .inr (11, mF a 0 0 1000 0))])) (va_Qi (fun (r : Int32) (_ : Unit) => r = 0) (fun (u : Unit) (t : State) => va_P (dC, dI) vwCl [(g0, .inr (11, mF a 0 0 1000 1))] t.heap ∧ va_K (dC, dI) vwCl [] t ∧ va_D (va_A [(g0, .inr (11, mF a 0 0 1000 0))] sz) [(g0, .inr (11, mF a 0 0 1000 1))]) (va_A [(g0, .inr (11, mF a 0 0 1000 0))] sz)) 0 0 (va_A [(g0, .inr (11, mF a 0 0 1000 0))] sz) := by
  refine Met.ofW (cc := cX12_by) (maxL := 6) (ret := (some .int)) (by decide) rfl ?_
  intro p e s m args below meth c s₁ B hml hv
  obtain ⟨rfl, hsz, hP, hK, hD0⟩ := hv
  have hx := B.exec
  have hb := B.bytes
  have hr := B.returns
  have hts := atoms_spec (ws := wsX12_by) B.pre
  have hown : s.vm.findClass RX12 = some m.cls := findClass_of_methodNamed B.named
  have hlocks := B.notSynchronized
  subst hsz
  have hD := hD0.self (sz := s.heap.size)
  generalize hAe : va_A [(g0, .inr (11, mF a 0 0 1000 0))] s.heap.size = A at hD ⊢
  have hA : ∀ q : Nat, s.heap.size ≤ q → A q := fun q h => by rw [← hAe]; exact Or.inr h
  generalize hH : s.heap = H at hP ⊢
  have hS : va_S A s.heap H [] := by rw [← hH]; exact va_S.rf
  have hl := lv_entry [.ref g0, .int p0, .int p1, .int p2, .long p3] (n := 6) (Nat.le_of_ble_eq_true rfl)
  rw [lg_entry_eq]
  generalize (lg_sl [.ref g0, .int p0, .int p1, .int p2, .long p3] ++ List.replicate (6 - (lg_sl [.ref g0, .int p0, .int p1, .int p2, .long p3]).length) Slot.unset).toArray = ls at hl ⊢
  have hl : lv_has ls 6 [(0, .ref g0), (1, .int p0), (2, .int p1), (3, .int p2), (4, .long p3)] := hl
  have hP : va_P (dC, dI) vwCl [(g0, .inr (11, mF a 0 0 1000 0))] H := hP
  refine lv_aload_n hx hb dX12_by_0 rfl (lv_at hl 0 rfl) ?_
  refine lv_iload_n hx hb dX12_by_1 rfl (lv_at hl 2 rfl) ?_
  have hPc := hP.sub (ws' := [(g0, .inr (11, mF a 0 0 1000 0))]) [0] rfl
  have hDc : va_D (fun _ => True) ([] : va_W) := nd_0
  have hKc := hK.sub (tys' := []) [] rfl
  have hFc := va_free (wc := []) hD hS hA [] rfl
  refine va_calli (va_runV (As := [.int p1]) (rest := []) ⟨hx, hb, hml, hown, hts⟩ (c_X12_isList l dC dI a g0 0 1000 0 p1 H.size) (cwV 1 hts gX12_by_X12_isList rfl rfl rfl (by decide +kernel) ⟨Nat.le_of_ble_eq_true rfl, Nat.le_of_ble_eq_true rfl⟩) ⟨fun a U g mk q => by obtain ⟨q0, q1, qP, qK, qD⟩ := q; exact ⟨q0, q1, qP, va_K.moved (u := U) (U := U.calling g mk a) (Vm.Alike.refl U.vm) qK, qD⟩, va_recv hKc hPc (ci := 11) (q0 := 0) rfl rfl, fun U hU hW => ⟨rfl, by rw [hU], by rw [hU]; exact hPc, va_K.moved hW.alike hKc, hDc.weaken (fun _ _ _ _ => trivial)⟩⟩ rfl rfl hl.1 rfl (lv_room (Nat.le_of_ble_eq_true rfl)) dX12_by_2 ⟨Nat.le_of_ble_eq_true rfl, Nat.le_of_ble_eq_true rfl⟩) hS (fun q _ h => hFc q h) hFc (fun r_1 u_2 t H1 locs ht hvm hw hB hz1 hk1 hS => ?_)
  have hP := nd_keep hP hk1
  generalize H1 = H at hP hS ⊢
  have hP : va_P (dC, dI) vwCl [(g0, .inr (11, mF a 0 0 1000 0))] H := hP
  have hD : va_D A [(g0, .inr (11, mF a 0 0 1000 0))] := hD
  refine W.widen (k := 0) (n := 0) (Nat.le_of_ble_eq_true rfl) (Nat.le_of_ble_eq_true rfl) ?_
  obtain rfl : r_1 = 0 := hw
  refine lv_if_ne (tgt := 14) hx hb dX12_by_5 (by decide) (fun c_5 => ?_) (fun c_5 => ?_)
  · exact absurd c_5 (by decide)
  · refine lv_aload_n hx hb dX12_by_8 rfl (lv_at hl 0 rfl) ?_
    refine lv_iconst (v := 1) hx hb dX12_by_9 (by decide) ?_
    have hPc := hP.sub (ws' := [(g0, .inr (11, mF a 0 0 1000 0))]) [0] rfl
    have hDc := hD.sub (ws' := [(g0, .inr (11, mF a 0 0 1000 0))]) [0] (by decide) rfl
    have hKc := hK.sub (tys' := []) [] rfl
    have hFc := va_free (wc := [(g0, .inr (11, mF a 0 0 1000 0))]) hD hS hA [0] rfl
    refine va_calli (va_runV (As := [.int 1]) (rest := []) ⟨hx, hb, hml, hown, hts⟩ (c_X12_fail l dC dI a g0 0 0 1000 0 1 H.size) (cwV 1 hts gX12_by_X12_fail rfl rfl rfl (by decide +kernel) ⟨Nat.le_of_ble_eq_true rfl, Nat.le_of_ble_eq_true rfl⟩) ⟨fun a U g mk q => by obtain ⟨q0, q1, qP, qK, qD⟩ := q; exact ⟨q0, q1, qP, va_K.moved (u := U) (U := U.calling g mk a) (Vm.Alike.refl U.vm) qK, qD⟩, va_recv hKc hPc (ci := 11) (q0 := 0) rfl rfl, fun U hU hW => ⟨rfl, by rw [hU], by rw [hU]; exact hPc, va_K.moved hW.alike hKc, hDc.weaken (fun _ _ _ _ => trivial)⟩⟩ rfl rfl hl.1 rfl (lv_room (Nat.le_of_ble_eq_true rfl)) dX12_by_10 ⟨Nat.le_of_ble_eq_true rfl, Nat.le_of_ble_eq_true rfl⟩) hS (fun q _ h => hFc q h) hFc (fun r_3 u_4 t H1 locs ht hvm hw hB hz1 hk1 hS => ?_)
    obtain ⟨hP1, hK1, hD1⟩ := hB
    rw [ht] at hP1
    have hK1 := va_K.moved hvm.symm hK1
    have hK := hK.app hK1
    obtain ⟨hP, hD⟩ := va_join (wr := []) (w1 := [(g0, .inr (11, mF a 0 0 1000 1))]) hP hD [0] [] rfl rfl (by decide) (by decide) hk1 hFc hP1 hD1
    generalize H1 = H at hP hS ⊢
    have hP : va_P (dC, dI) vwCl [(g0, .inr (11, mF a 0 0 1000 1))] H := hP
    have hD : va_D A [(g0, .inr (11, mF a 0 0 1000 1))] := hD
    have hK : va_K (dC, dI) vwCl [] s := hK
    refine W.widen (k := 0) (n := 0) (Nat.le_of_ble_eq_true rfl) (Nat.le_of_ble_eq_true rfl) ?_
    obtain rfl : r_3 = 0 := hw
    refine W.widen (k := 0) (n := 0) (Nat.le_of_ble_eq_true rfl) (Nat.le_of_ble_eq_true rfl) ?_
    have hP9 := hP.sub (ws' := [(g0, .inr (11, mF a 0 0 1000 1))]) [0] rfl
    have hD9 := hD.sub (ws' := [(g0, .inr (11, mF a 0 0 1000 1))]) [0] (by decide) rfl
    have hK9 := hK.sub (tys' := []) [] rfl
    exact W.iret (v := 0) hx hb hr (fun t ht hW => ⟨⟨0, (), rfl, rfl, by rw [ht]; exact hP9, va_K.moved hW.alike hK9, hD9⟩, hS.F ht⟩) hS.2.2 dX12_by_13
set_option maxHeartbeats 4000000 in
set_option maxRecDepth 100000 in
theorem c_X12_take (l : Launch) (dC : Nat → ClassId) (dI : Nat → Nat → Nat) (a : Nat → Nat) (g0 : Nat) (p0 : Int32) (p1 : Int32) (sz : Nat) : Met l yX12_take wsX12_take ({ frames := 30, cells := 0, slots := 0, locals := 900 }) (va_Pc [.ref g0, .int p0, .int p1] (fun U => U.heap.size = sz ∧ va_P (dC, dI) vwCl [(g0, .inr (11, mF a 0 0 1000 0))] U.heap ∧ va_K (dC, dI) vwCl [] U ∧ va_D (fun _ => True) [(g0, .inr (11, mF a 0 0 1000 0))])) (va_Qi (fun (r : Int32) (u : Int32 × Int32 × Int32 × Int32) => u.2.2.2 = 1) (fun (u : Int32 × Int32 × Int32 × Int32) (t : State) => va_P (dC, dI) vwCl [(g0, .inr (11, mF a u.1 u.2.1 u.2.2.1 u.2.2.2))] t.heap ∧ va_K (dC, dI) vwCl [] t ∧ va_D (va_A [(g0, .inr (11, mF a 0 0 1000 0))] sz) [(g0, .inr (11, mF a u.1 u.2.1 u.2.2.1 u.2.2.2))]) (va_A [(g0, .inr (11, mF a 0 0 1000 0))] sz)) 0 0 (va_A [(g0, .inr (11, mF a 0 0 1000 0))] sz) := by
  refine Met.ofW (cc := cX12_take) (maxL := 3) (ret := (some .int)) (by decide) rfl ?_
  intro p e s m args below meth c s₁ B hml hv
  obtain ⟨rfl, hsz, hP, hK, hD0⟩ := hv
  have hx := B.exec
  have hb := B.bytes
  have hr := B.returns
  have hts := atoms_spec (ws := wsX12_take) B.pre
  have hown : s.vm.findClass RX12 = some m.cls := findClass_of_methodNamed B.named
  have hlocks := B.notSynchronized
  subst hsz
  have hD := hD0.self (sz := s.heap.size)
  generalize hAe : va_A [(g0, .inr (11, mF a 0 0 1000 0))] s.heap.size = A at hD ⊢
  have hA : ∀ q : Nat, s.heap.size ≤ q → A q := fun q h => by rw [← hAe]; exact Or.inr h
  generalize hH : s.heap = H at hP ⊢
  have hS : va_S A s.heap H [] := by rw [← hH]; exact va_S.rf
  have hl := lv_entry [.ref g0, .int p0, .int p1] (n := 3) (Nat.le_of_ble_eq_true rfl)
  rw [lg_entry_eq]
  generalize (lg_sl [.ref g0, .int p0, .int p1] ++ List.replicate (3 - (lg_sl [.ref g0, .int p0, .int p1]).length) Slot.unset).toArray = ls at hl ⊢
  have hl : lv_has ls 3 [(0, .ref g0), (1, .int p0), (2, .int p1)] := hl
  have hP : va_P (dC, dI) vwCl [(g0, .inr (11, mF a 0 0 1000 0))] H := hP
  refine lv_aload_n hx hb dX12_take_0 rfl (lv_at hl 0 rfl) ?_
  refine lv_iconst (v := 0) hx hb dX12_take_1 (by decide) ?_
  refine va_put (D := (dC, dI)) (ci := 11) (v := .int 0) (ty := .int) (C := RX12) (T := TX12) (N := 32) hx hb hts (by decide +kernel) tyX12 tyX12_ok nmX12 hown hK hP hD hS 0 rfl rfl 19 (by decide) (hts (.fieldLink RX12 63 "NeededListsModel" "thrown" "I") (by decide +kernel)) (fun _ h9 => h9) rfl (by decide +kernel) rfl rfl (Nat.le_of_ble_eq_true rfl) dX12_take_2 (fun H locs hP hD hS => ?_)
  have hP : va_P (dC, dI) vwCl [(g0, .inr (11, mF a 0 0 1000 0))] H := hP
  have hD : va_D A [(g0, .inr (11, mF a 0 0 1000 0))] := hD
  refine lv_aload_n hx hb dX12_take_5 rfl (lv_at hl 0 rfl) ?_
  refine lv_bipush (v := 6) hx hb dX12_take_6 (by decide) ?_
  refine lv_iload_n hx hb dX12_take_8 rfl (lv_at hl 1 rfl) ?_
  refine lv_iload_n hx hb dX12_take_9 rfl (lv_at hl 2 rfl) ?_
  have hPc := hP.sub (ws' := [(g0, .inr (11, mF a 0 0 1000 0))]) [0] rfl
  have hDc := hD.sub (ws' := [(g0, .inr (11, mF a 0 0 1000 0))]) [0] (by decide) rfl
  have hKc := hK.sub (tys' := []) [] rfl
  have hFc := va_free (wc := [(g0, .inr (11, mF a 0 0 1000 0))]) hD hS hA [0] rfl
  refine va_calli (va_runV (As := [.int 6, .int p0, .int p1]) (rest := []) ⟨hx, hb, hml, hown, hts⟩ (c_X12_some l dC dI a g0 6 p0 p1 H.size) (cwV 3 hts gX12_take_X12_some rfl rfl rfl (by decide +kernel) ⟨Nat.le_of_ble_eq_true rfl, Nat.le_of_ble_eq_true rfl⟩) ⟨fun a U g mk q => by obtain ⟨q0, q1, qP, qK, qD⟩ := q; exact ⟨q0, q1, qP, va_K.moved (u := U) (U := U.calling g mk a) (Vm.Alike.refl U.vm) qK, qD⟩, va_recv hKc hPc (ci := 11) (q0 := 0) rfl rfl, fun U hU hW => ⟨rfl, by rw [hU], by rw [hU]; exact hPc, va_K.moved hW.alike hKc, hDc.weaken (fun _ _ _ _ => trivial)⟩⟩ rfl rfl hl.1 rfl (lv_room (Nat.le_of_ble_eq_true rfl)) dX12_take_10 ⟨Nat.le_of_ble_eq_true rfl, Nat.le_of_ble_eq_true rfl⟩) hS (fun q _ h => hFc q h) hFc (fun r_1 u_2 t H1 locs ht hvm hw hB hz1 hk1 hS => ?_)
  obtain ⟨hP1, hK1, hD1⟩ := hB
  rw [ht] at hP1
  have hK1 := va_K.moved hvm.symm hK1
  have hK := hK.app hK1
  obtain ⟨hP, hD⟩ := va_join (wr := []) (w1 := [(g0, .inr (11, mF a 0 0 1000 1))]) hP hD [0] [] rfl rfl (by decide) (by decide) hk1 hFc hP1 hD1
  generalize H1 = H at hP hS ⊢
  have hP : va_P (dC, dI) vwCl [(g0, .inr (11, mF a 0 0 1000 1))] H := hP
  have hD : va_D A [(g0, .inr (11, mF a 0 0 1000 1))] := hD
  have hK : va_K (dC, dI) vwCl [] s := hK
  refine W.widen (k := 0) (n := 0) (Nat.le_of_ble_eq_true rfl) (Nat.le_of_ble_eq_true rfl) ?_
  obtain rfl : r_1 = 0 := hw
  refine W.widen (k := 0) (n := 0) (Nat.le_of_ble_eq_true rfl) (Nat.le_of_ble_eq_true rfl) ?_
  have hP9 := hP.sub (ws' := [(g0, .inr (11, mF a 0 0 1000 1))]) [0] rfl
  have hD9 := hD.sub (ws' := [(g0, .inr (11, mF a 0 0 1000 1))]) [0] (by decide) rfl
  have hK9 := hK.sub (tys' := []) [] rfl
  exact W.iret (v := 0) hx hb hr (fun t ht hW => ⟨⟨0, (0, 0, 1000, 1), rfl, rfl, by rw [ht]; exact hP9, va_K.moved hW.alike hK9, hD9⟩, hS.F ht⟩) hS.2.2 dX12_take_13
set_option maxHeartbeats 4000000 in
set_option maxRecDepth 100000 in
theorem c_X12_drop (l : Launch) (dC : Nat → ClassId) (dI : Nat → Nat → Nat) (a : Nat → Nat) (g0 : Nat) (p0 : Int32) (p1 : Int32) (sz : Nat) : Met l yX12_drop wsX12_drop ({ frames := 30, cells := 0, slots := 0, locals := 900 }) (va_Pc [.ref g0, .int p0, .int p1] (fun U => U.heap.size = sz ∧ va_P (dC, dI) vwCl [(g0, .inr (11, mF a 0 0 1000 0))] U.heap ∧ va_K (dC, dI) vwCl [] U ∧ va_D (fun _ => True) [(g0, .inr (11, mF a 0 0 1000 0))])) (va_Qi (fun (r : Int32) (u : Int32 × Int32 × Int32 × Int32) => u.2.2.2 = 1) (fun (u : Int32 × Int32 × Int32 × Int32) (t : State) => va_P (dC, dI) vwCl [(g0, .inr (11, mF a u.1 u.2.1 u.2.2.1 u.2.2.2))] t.heap ∧ va_K (dC, dI) vwCl [] t ∧ va_D (va_A [(g0, .inr (11, mF a 0 0 1000 0))] sz) [(g0, .inr (11, mF a u.1 u.2.1 u.2.2.1 u.2.2.2))]) (va_A [(g0, .inr (11, mF a 0 0 1000 0))] sz)) 0 0 (va_A [(g0, .inr (11, mF a 0 0 1000 0))] sz) := by
  refine Met.ofW (cc := cX12_drop) (maxL := 3) (ret := (some .int)) (by decide) rfl ?_
  intro p e s m args below meth c s₁ B hml hv
  obtain ⟨rfl, hsz, hP, hK, hD0⟩ := hv
  have hx := B.exec
  have hb := B.bytes
  have hr := B.returns
  have hts := atoms_spec (ws := wsX12_drop) B.pre
  have hown : s.vm.findClass RX12 = some m.cls := findClass_of_methodNamed B.named
  have hlocks := B.notSynchronized
  subst hsz
  have hD := hD0.self (sz := s.heap.size)
  generalize hAe : va_A [(g0, .inr (11, mF a 0 0 1000 0))] s.heap.size = A at hD ⊢
  have hA : ∀ q : Nat, s.heap.size ≤ q → A q := fun q h => by rw [← hAe]; exact Or.inr h
  generalize hH : s.heap = H at hP ⊢
  have hS : va_S A s.heap H [] := by rw [← hH]; exact va_S.rf
  have hl := lv_entry [.ref g0, .int p0, .int p1] (n := 3) (Nat.le_of_ble_eq_true rfl)
  rw [lg_entry_eq]
  generalize (lg_sl [.ref g0, .int p0, .int p1] ++ List.replicate (3 - (lg_sl [.ref g0, .int p0, .int p1]).length) Slot.unset).toArray = ls at hl ⊢
  have hl : lv_has ls 3 [(0, .ref g0), (1, .int p0), (2, .int p1)] := hl
  have hP : va_P (dC, dI) vwCl [(g0, .inr (11, mF a 0 0 1000 0))] H := hP
  refine lv_aload_n hx hb dX12_drop_0 rfl (lv_at hl 0 rfl) ?_
  refine lv_iconst (v := 0) hx hb dX12_drop_1 (by decide) ?_
  refine va_put (D := (dC, dI)) (ci := 11) (v := .int 0) (ty := .int) (C := RX12) (T := TX12) (N := 32) hx hb hts (by decide +kernel) tyX12 tyX12_ok nmX12 hown hK hP hD hS 0 rfl rfl 19 (by decide) (hts (.fieldLink RX12 63 "NeededListsModel" "thrown" "I") (by decide +kernel)) (fun _ h9 => h9) rfl (by decide +kernel) rfl rfl (Nat.le_of_ble_eq_true rfl) dX12_drop_2 (fun H locs hP hD hS => ?_)
  have hP : va_P (dC, dI) vwCl [(g0, .inr (11, mF a 0 0 1000 0))] H := hP
  have hD : va_D A [(g0, .inr (11, mF a 0 0 1000 0))] := hD
  refine lv_aload_n hx hb dX12_drop_5 rfl (lv_at hl 0 rfl) ?_
  refine lv_bipush (v := 7) hx hb dX12_drop_6 (by decide) ?_
  refine lv_iload_n hx hb dX12_drop_8 rfl (lv_at hl 1 rfl) ?_
  refine lv_iload_n hx hb dX12_drop_9 rfl (lv_at hl 2 rfl) ?_
  have hPc := hP.sub (ws' := [(g0, .inr (11, mF a 0 0 1000 0))]) [0] rfl
  have hDc := hD.sub (ws' := [(g0, .inr (11, mF a 0 0 1000 0))]) [0] (by decide) rfl
  have hKc := hK.sub (tys' := []) [] rfl
  have hFc := va_free (wc := [(g0, .inr (11, mF a 0 0 1000 0))]) hD hS hA [0] rfl
  refine va_calli (va_runV (As := [.int 7, .int p0, .int p1]) (rest := []) ⟨hx, hb, hml, hown, hts⟩ (c_X12_some l dC dI a g0 7 p0 p1 H.size) (cwV 3 hts gX12_drop_X12_some rfl rfl rfl (by decide +kernel) ⟨Nat.le_of_ble_eq_true rfl, Nat.le_of_ble_eq_true rfl⟩) ⟨fun a U g mk q => by obtain ⟨q0, q1, qP, qK, qD⟩ := q; exact ⟨q0, q1, qP, va_K.moved (u := U) (U := U.calling g mk a) (Vm.Alike.refl U.vm) qK, qD⟩, va_recv hKc hPc (ci := 11) (q0 := 0) rfl rfl, fun U hU hW => ⟨rfl, by rw [hU], by rw [hU]; exact hPc, va_K.moved hW.alike hKc, hDc.weaken (fun _ _ _ _ => trivial)⟩⟩ rfl rfl hl.1 rfl (lv_room (Nat.le_of_ble_eq_true rfl)) dX12_drop_10 ⟨Nat.le_of_ble_eq_true rfl, Nat.le_of_ble_eq_true rfl⟩) hS (fun q _ h => hFc q h) hFc (fun r_1 u_2 t H1 locs ht hvm hw hB hz1 hk1 hS => ?_)
  obtain ⟨hP1, hK1, hD1⟩ := hB
  rw [ht] at hP1
  have hK1 := va_K.moved hvm.symm hK1
  have hK := hK.app hK1
  obtain ⟨hP, hD⟩ := va_join (wr := []) (w1 := [(g0, .inr (11, mF a 0 0 1000 1))]) hP hD [0] [] rfl rfl (by decide) (by decide) hk1 hFc hP1 hD1
  generalize H1 = H at hP hS ⊢
  have hP : va_P (dC, dI) vwCl [(g0, .inr (11, mF a 0 0 1000 1))] H := hP
  have hD : va_D A [(g0, .inr (11, mF a 0 0 1000 1))] := hD
  have hK : va_K (dC, dI) vwCl [] s := hK
  refine W.widen (k := 0) (n := 0) (Nat.le_of_ble_eq_true rfl) (Nat.le_of_ble_eq_true rfl) ?_
  obtain rfl : r_1 = 0 := hw
  refine W.widen (k := 0) (n := 0) (Nat.le_of_ble_eq_true rfl) (Nat.le_of_ble_eq_true rfl) ?_
  have hP9 := hP.sub (ws' := [(g0, .inr (11, mF a 0 0 1000 1))]) [0] rfl
  have hD9 := hD.sub (ws' := [(g0, .inr (11, mF a 0 0 1000 1))]) [0] (by decide) rfl
  have hK9 := hK.sub (tys' := []) [] rfl
  exact W.iret (v := 0) hx hb hr (fun t ht hW => ⟨⟨0, (0, 0, 1000, 1), rfl, rfl, by rw [ht]; exact hP9, va_K.moved hW.alike hK9, hD9⟩, hS.F ht⟩) hS.2.2 dX12_drop_13
set_option maxHeartbeats 4000000 in
set_option maxRecDepth 100000 in
theorem c_X12_keep (l : Launch) (dC : Nat → ClassId) (dI : Nat → Nat → Nat) (a : Nat → Nat) (g0 : Nat) (p0 : Int32) (p1 : Int32) (p2 : Int64) (sz : Nat) : Met l yX12_keep wsX12_keep ({ frames := 30, cells := 0, slots := 0, locals := 900 }) (va_Pc [.ref g0, .int p0, .int p1, .long p2] (fun U => U.heap.size = sz ∧ va_P (dC, dI) vwCl [(g0, .inr (11, mF a 0 0 1000 0))] U.heap ∧ va_K (dC, dI) vwCl [] U ∧ va_D (fun _ => True) [(g0, .inr (11, mF a 0 0 1000 0))])) (va_Qi (fun (r : Int32) (u : Int32 × Int32 × Int32 × Int32) => u.2.2.2 = 1) (fun (u : Int32 × Int32 × Int32 × Int32) (t : State) => va_P (dC, dI) vwCl [(g0, .inr (11, mF a u.1 u.2.1 u.2.2.1 u.2.2.2))] t.heap ∧ va_K (dC, dI) vwCl [] t ∧ va_D (va_A [(g0, .inr (11, mF a 0 0 1000 0))] sz) [(g0, .inr (11, mF a u.1 u.2.1 u.2.2.1 u.2.2.2))]) (va_A [(g0, .inr (11, mF a 0 0 1000 0))] sz)) 0 0 (va_A [(g0, .inr (11, mF a 0 0 1000 0))] sz) := by
  refine Met.ofW (cc := cX12_keep) (maxL := 5) (ret := (some .int)) (by decide) rfl ?_
  intro p e s m args below meth c s₁ B hml hv
  obtain ⟨rfl, hsz, hP, hK, hD0⟩ := hv
  have hx := B.exec
  have hb := B.bytes
  have hr := B.returns
  have hts := atoms_spec (ws := wsX12_keep) B.pre
  have hown : s.vm.findClass RX12 = some m.cls := findClass_of_methodNamed B.named
  have hlocks := B.notSynchronized
  subst hsz
  have hD := hD0.self (sz := s.heap.size)
  generalize hAe : va_A [(g0, .inr (11, mF a 0 0 1000 0))] s.heap.size = A at hD ⊢
  have hA : ∀ q : Nat, s.heap.size ≤ q → A q := fun q h => by rw [← hAe]; exact Or.inr h
  generalize hH : s.heap = H at hP ⊢
  have hS : va_S A s.heap H [] := by rw [← hH]; exact va_S.rf
  have hl := lv_entry [.ref g0, .int p0, .int p1, .long p2] (n := 5) (Nat.le_of_ble_eq_true rfl)
  rw [lg_entry_eq]
  generalize (lg_sl [.ref g0, .int p0, .int p1, .long p2] ++ List.replicate (5 - (lg_sl [.ref g0, .int p0, .int p1, .long p2]).length) Slot.unset).toArray = ls at hl ⊢
  have hl : lv_has ls 5 [(0, .ref g0), (1, .int p0), (2, .int p1), (3, .long p2)] := hl
  have hP : va_P (dC, dI) vwCl [(g0, .inr (11, mF a 0 0 1000 0))] H := hP
  refine lv_aload_n hx hb dX12_keep_0 rfl (lv_at hl 0 rfl) ?_
  refine lv_iconst (v := 0) hx hb dX12_keep_1 (by decide) ?_
  refine va_put (D := (dC, dI)) (ci := 11) (v := .int 0) (ty := .int) (C := RX12) (T := TX12) (N := 32) hx hb hts (by decide +kernel) tyX12 tyX12_ok nmX12 hown hK hP hD hS 0 rfl rfl 19 (by decide) (hts (.fieldLink RX12 63 "NeededListsModel" "thrown" "I") (by decide +kernel)) (fun _ h9 => h9) rfl (by decide +kernel) rfl rfl (Nat.le_of_ble_eq_true rfl) dX12_keep_2 (fun H locs hP hD hS => ?_)
  have hP : va_P (dC, dI) vwCl [(g0, .inr (11, mF a 0 0 1000 0))] H := hP
  have hD : va_D A [(g0, .inr (11, mF a 0 0 1000 0))] := hD
  refine lv_aload_n hx hb dX12_keep_5 rfl (lv_at hl 0 rfl) ?_
  refine lv_bipush (v := 8) hx hb dX12_keep_6 (by decide) ?_
  refine lv_iload_n hx hb dX12_keep_8 rfl (lv_at hl 1 rfl) ?_
  refine lv_iload_n hx hb dX12_keep_9 rfl (lv_at hl 2 rfl) ?_
  refine lv_lload_n hx hb dX12_keep_10 rfl (lv_at hl 3 rfl) ?_
  have hPc := hP.sub (ws' := [(g0, .inr (11, mF a 0 0 1000 0))]) [0] rfl
  have hDc := hD.sub (ws' := [(g0, .inr (11, mF a 0 0 1000 0))]) [0] (by decide) rfl
  have hKc := hK.sub (tys' := []) [] rfl
  have hFc := va_free (wc := [(g0, .inr (11, mF a 0 0 1000 0))]) hD hS hA [0] rfl
  refine va_calli (va_runV (As := [.int 8, .int p0, .int p1, .long p2]) (rest := []) ⟨hx, hb, hml, hown, hts⟩ (c_X12_by l dC dI a g0 8 p0 p1 p2 H.size) (cwV 4 hts gX12_keep_X12_by rfl rfl rfl (by decide +kernel) ⟨Nat.le_of_ble_eq_true rfl, Nat.le_of_ble_eq_true rfl⟩) ⟨fun a U g mk q => by obtain ⟨q0, q1, qP, qK, qD⟩ := q; exact ⟨q0, q1, qP, va_K.moved (u := U) (U := U.calling g mk a) (Vm.Alike.refl U.vm) qK, qD⟩, va_recv hKc hPc (ci := 11) (q0 := 0) rfl rfl, fun U hU hW => ⟨rfl, by rw [hU], by rw [hU]; exact hPc, va_K.moved hW.alike hKc, hDc.weaken (fun _ _ _ _ => trivial)⟩⟩ rfl rfl hl.1 rfl (lv_room (Nat.le_of_ble_eq_true rfl)) dX12_keep_11 ⟨Nat.le_of_ble_eq_true rfl, Nat.le_of_ble_eq_true rfl⟩) hS (fun q _ h => hFc q h) hFc (fun r_1 u_2 t H1 locs ht hvm hw hB hz1 hk1 hS => ?_)
  obtain ⟨hP1, hK1, hD1⟩ := hB
  rw [ht] at hP1
  have hK1 := va_K.moved hvm.symm hK1
  have hK := hK.app hK1
  obtain ⟨hP, hD⟩ := va_join (wr := []) (w1 := [(g0, .inr (11, mF a 0 0 1000 1))]) hP hD [0] [] rfl rfl (by decide) (by decide) hk1 hFc hP1 hD1
  generalize H1 = H at hP hS ⊢
  have hP : va_P (dC, dI) vwCl [(g0, .inr (11, mF a 0 0 1000 1))] H := hP
  have hD : va_D A [(g0, .inr (11, mF a 0 0 1000 1))] := hD
  have hK : va_K (dC, dI) vwCl [] s := hK
  refine W.widen (k := 0) (n := 0) (Nat.le_of_ble_eq_true rfl) (Nat.le_of_ble_eq_true rfl) ?_
  obtain rfl : r_1 = 0 := hw
  refine W.widen (k := 0) (n := 0) (Nat.le_of_ble_eq_true rfl) (Nat.le_of_ble_eq_true rfl) ?_
  have hP9 := hP.sub (ws' := [(g0, .inr (11, mF a 0 0 1000 1))]) [0] rfl
  have hD9 := hD.sub (ws' := [(g0, .inr (11, mF a 0 0 1000 1))]) [0] (by decide) rfl
  have hK9 := hK.sub (tys' := []) [] rfl
  exact W.iret (v := 0) hx hb hr (fun t ht hW => ⟨⟨0, (0, 0, 1000, 1), rfl, rfl, by rw [ht]; exact hP9, va_K.moved hW.alike hK9, hD9⟩, hS.F ht⟩) hS.2.2 dX12_keep_14
set_option maxHeartbeats 4000000 in
set_option maxRecDepth 100000 in
theorem c_X12_during (l : Launch) (dC : Nat → ClassId) (dI : Nat → Nat → Nat) (a : Nat → Nat) (g0 : Nat) (p0 : Int32) (p1 : Int32) (p2 : Int64) (sz : Nat) : Met l yX12_during wsX12_during ({ frames := 30, cells := 0, slots := 0, locals := 900 }) (va_Pc [.ref g0, .int p0, .int p1, .long p2] (fun U => U.heap.size = sz ∧ va_P (dC, dI) vwCl [(g0, .inr (11, mF a 0 0 1000 0))] U.heap ∧ va_K (dC, dI) vwCl [] U ∧ va_D (fun _ => True) [(g0, .inr (11, mF a 0 0 1000 0))])) (va_Qi (fun (r : Int32) (u : Int32 × Int32 × Int32 × Int32) => u.2.2.2 = 1) (fun (u : Int32 × Int32 × Int32 × Int32) (t : State) => va_P (dC, dI) vwCl [(g0, .inr (11, mF a u.1 u.2.1 u.2.2.1 u.2.2.2))] t.heap ∧ va_K (dC, dI) vwCl [] t ∧ va_D (va_A [(g0, .inr (11, mF a 0 0 1000 0))] sz) [(g0, .inr (11, mF a u.1 u.2.1 u.2.2.1 u.2.2.2))]) (va_A [(g0, .inr (11, mF a 0 0 1000 0))] sz)) 0 0 (va_A [(g0, .inr (11, mF a 0 0 1000 0))] sz) := by
  refine Met.ofW (cc := cX12_during) (maxL := 5) (ret := (some .int)) (by decide) rfl ?_
  intro p e s m args below meth c s₁ B hml hv
  obtain ⟨rfl, hsz, hP, hK, hD0⟩ := hv
  have hx := B.exec
  have hb := B.bytes
  have hr := B.returns
  have hts := atoms_spec (ws := wsX12_during) B.pre
  have hown : s.vm.findClass RX12 = some m.cls := findClass_of_methodNamed B.named
  have hlocks := B.notSynchronized
  subst hsz
  have hD := hD0.self (sz := s.heap.size)
  generalize hAe : va_A [(g0, .inr (11, mF a 0 0 1000 0))] s.heap.size = A at hD ⊢
  have hA : ∀ q : Nat, s.heap.size ≤ q → A q := fun q h => by rw [← hAe]; exact Or.inr h
  generalize hH : s.heap = H at hP ⊢
  have hS : va_S A s.heap H [] := by rw [← hH]; exact va_S.rf
  have hl := lv_entry [.ref g0, .int p0, .int p1, .long p2] (n := 5) (Nat.le_of_ble_eq_true rfl)
  rw [lg_entry_eq]
  generalize (lg_sl [.ref g0, .int p0, .int p1, .long p2] ++ List.replicate (5 - (lg_sl [.ref g0, .int p0, .int p1, .long p2]).length) Slot.unset).toArray = ls at hl ⊢
  have hl : lv_has ls 5 [(0, .ref g0), (1, .int p0), (2, .int p1), (3, .long p2)] := hl
  have hP : va_P (dC, dI) vwCl [(g0, .inr (11, mF a 0 0 1000 0))] H := hP
  refine lv_aload_n hx hb dX12_during_0 rfl (lv_at hl 0 rfl) ?_
  refine lv_iconst (v := 0) hx hb dX12_during_1 (by decide) ?_
  refine va_put (D := (dC, dI)) (ci := 11) (v := .int 0) (ty := .int) (C := RX12) (T := TX12) (N := 32) hx hb hts (by decide +kernel) tyX12 tyX12_ok nmX12 hown hK hP hD hS 0 rfl rfl 19 (by decide) (hts (.fieldLink RX12 63 "NeededListsModel" "thrown" "I") (by decide +kernel)) (fun _ h9 => h9) rfl (by decide +kernel) rfl rfl (Nat.le_of_ble_eq_true rfl) dX12_during_2 (fun H locs hP hD hS => ?_)
  have hP : va_P (dC, dI) vwCl [(g0, .inr (11, mF a 0 0 1000 0))] H := hP
  have hD : va_D A [(g0, .inr (11, mF a 0 0 1000 0))] := hD
  refine lv_aload_n hx hb dX12_during_5 rfl (lv_at hl 0 rfl) ?_
  refine lv_bipush (v := 9) hx hb dX12_during_6 (by decide) ?_
  refine lv_iload_n hx hb dX12_during_8 rfl (lv_at hl 1 rfl) ?_
  refine lv_iload_n hx hb dX12_during_9 rfl (lv_at hl 2 rfl) ?_
  refine lv_lload_n hx hb dX12_during_10 rfl (lv_at hl 3 rfl) ?_
  have hPc := hP.sub (ws' := [(g0, .inr (11, mF a 0 0 1000 0))]) [0] rfl
  have hDc := hD.sub (ws' := [(g0, .inr (11, mF a 0 0 1000 0))]) [0] (by decide) rfl
  have hKc := hK.sub (tys' := []) [] rfl
  have hFc := va_free (wc := [(g0, .inr (11, mF a 0 0 1000 0))]) hD hS hA [0] rfl
  refine va_calli (va_runV (As := [.int 9, .int p0, .int p1, .long p2]) (rest := []) ⟨hx, hb, hml, hown, hts⟩ (c_X12_by l dC dI a g0 9 p0 p1 p2 H.size) (cwV 4 hts gX12_during_X12_by rfl rfl rfl (by decide +kernel) ⟨Nat.le_of_ble_eq_true rfl, Nat.le_of_ble_eq_true rfl⟩) ⟨fun a U g mk q => by obtain ⟨q0, q1, qP, qK, qD⟩ := q; exact ⟨q0, q1, qP, va_K.moved (u := U) (U := U.calling g mk a) (Vm.Alike.refl U.vm) qK, qD⟩, va_recv hKc hPc (ci := 11) (q0 := 0) rfl rfl, fun U hU hW => ⟨rfl, by rw [hU], by rw [hU]; exact hPc, va_K.moved hW.alike hKc, hDc.weaken (fun _ _ _ _ => trivial)⟩⟩ rfl rfl hl.1 rfl (lv_room (Nat.le_of_ble_eq_true rfl)) dX12_during_11 ⟨Nat.le_of_ble_eq_true rfl, Nat.le_of_ble_eq_true rfl⟩) hS (fun q _ h => hFc q h) hFc (fun r_1 u_2 t H1 locs ht hvm hw hB hz1 hk1 hS => ?_)
  obtain ⟨hP1, hK1, hD1⟩ := hB
  rw [ht] at hP1
  have hK1 := va_K.moved hvm.symm hK1
  have hK := hK.app hK1
  obtain ⟨hP, hD⟩ := va_join (wr := []) (w1 := [(g0, .inr (11, mF a 0 0 1000 1))]) hP hD [0] [] rfl rfl (by decide) (by decide) hk1 hFc hP1 hD1
  generalize H1 = H at hP hS ⊢
  have hP : va_P (dC, dI) vwCl [(g0, .inr (11, mF a 0 0 1000 1))] H := hP
  have hD : va_D A [(g0, .inr (11, mF a 0 0 1000 1))] := hD
  have hK : va_K (dC, dI) vwCl [] s := hK
  refine W.widen (k := 0) (n := 0) (Nat.le_of_ble_eq_true rfl) (Nat.le_of_ble_eq_true rfl) ?_
  obtain rfl : r_1 = 0 := hw
  refine W.widen (k := 0) (n := 0) (Nat.le_of_ble_eq_true rfl) (Nat.le_of_ble_eq_true rfl) ?_
  have hP9 := hP.sub (ws' := [(g0, .inr (11, mF a 0 0 1000 1))]) [0] rfl
  have hD9 := hD.sub (ws' := [(g0, .inr (11, mF a 0 0 1000 1))]) [0] (by decide) rfl
  have hK9 := hK.sub (tys' := []) [] rfl
  exact W.iret (v := 0) hx hb hr (fun t ht hW => ⟨⟨0, (0, 0, 1000, 1), rfl, rfl, by rw [ht]; exact hP9, va_K.moved hW.alike hK9, hD9⟩, hS.F ht⟩) hS.2.2 dX12_during_14
set_option maxHeartbeats 4000000 in
set_option maxRecDepth 100000 in
theorem c_X12_after (l : Launch) (dC : Nat → ClassId) (dI : Nat → Nat → Nat) (a : Nat → Nat) (g0 : Nat) (p0 : Int32) (p1 : Int32) (p2 : Int64) (sz : Nat) : Met l yX12_after wsX12_after ({ frames := 30, cells := 0, slots := 0, locals := 900 }) (va_Pc [.ref g0, .int p0, .int p1, .long p2] (fun U => U.heap.size = sz ∧ va_P (dC, dI) vwCl [(g0, .inr (11, mF a 0 0 1000 0))] U.heap ∧ va_K (dC, dI) vwCl [] U ∧ va_D (fun _ => True) [(g0, .inr (11, mF a 0 0 1000 0))])) (va_Qi (fun (r : Int32) (u : Int32 × Int32 × Int32 × Int32) => u.2.2.2 = 1) (fun (u : Int32 × Int32 × Int32 × Int32) (t : State) => va_P (dC, dI) vwCl [(g0, .inr (11, mF a u.1 u.2.1 u.2.2.1 u.2.2.2))] t.heap ∧ va_K (dC, dI) vwCl [] t ∧ va_D (va_A [(g0, .inr (11, mF a 0 0 1000 0))] sz) [(g0, .inr (11, mF a u.1 u.2.1 u.2.2.1 u.2.2.2))]) (va_A [(g0, .inr (11, mF a 0 0 1000 0))] sz)) 0 0 (va_A [(g0, .inr (11, mF a 0 0 1000 0))] sz) := by
  refine Met.ofW (cc := cX12_after) (maxL := 5) (ret := (some .int)) (by decide) rfl ?_
  intro p e s m args below meth c s₁ B hml hv
  obtain ⟨rfl, hsz, hP, hK, hD0⟩ := hv
  have hx := B.exec
  have hb := B.bytes
  have hr := B.returns
  have hts := atoms_spec (ws := wsX12_after) B.pre
  have hown : s.vm.findClass RX12 = some m.cls := findClass_of_methodNamed B.named
  have hlocks := B.notSynchronized
  subst hsz
  have hD := hD0.self (sz := s.heap.size)
  generalize hAe : va_A [(g0, .inr (11, mF a 0 0 1000 0))] s.heap.size = A at hD ⊢
  have hA : ∀ q : Nat, s.heap.size ≤ q → A q := fun q h => by rw [← hAe]; exact Or.inr h
  generalize hH : s.heap = H at hP ⊢
  have hS : va_S A s.heap H [] := by rw [← hH]; exact va_S.rf
  have hl := lv_entry [.ref g0, .int p0, .int p1, .long p2] (n := 5) (Nat.le_of_ble_eq_true rfl)
  rw [lg_entry_eq]
  generalize (lg_sl [.ref g0, .int p0, .int p1, .long p2] ++ List.replicate (5 - (lg_sl [.ref g0, .int p0, .int p1, .long p2]).length) Slot.unset).toArray = ls at hl ⊢
  have hl : lv_has ls 5 [(0, .ref g0), (1, .int p0), (2, .int p1), (3, .long p2)] := hl
  have hP : va_P (dC, dI) vwCl [(g0, .inr (11, mF a 0 0 1000 0))] H := hP
  refine lv_aload_n hx hb dX12_after_0 rfl (lv_at hl 0 rfl) ?_
  refine lv_iconst (v := 0) hx hb dX12_after_1 (by decide) ?_
  refine va_put (D := (dC, dI)) (ci := 11) (v := .int 0) (ty := .int) (C := RX12) (T := TX12) (N := 32) hx hb hts (by decide +kernel) tyX12 tyX12_ok nmX12 hown hK hP hD hS 0 rfl rfl 19 (by decide) (hts (.fieldLink RX12 63 "NeededListsModel" "thrown" "I") (by decide +kernel)) (fun _ h9 => h9) rfl (by decide +kernel) rfl rfl (Nat.le_of_ble_eq_true rfl) dX12_after_2 (fun H locs hP hD hS => ?_)
  have hP : va_P (dC, dI) vwCl [(g0, .inr (11, mF a 0 0 1000 0))] H := hP
  have hD : va_D A [(g0, .inr (11, mF a 0 0 1000 0))] := hD
  refine lv_aload_n hx hb dX12_after_5 rfl (lv_at hl 0 rfl) ?_
  refine lv_bipush (v := 10) hx hb dX12_after_6 (by decide) ?_
  refine lv_iload_n hx hb dX12_after_8 rfl (lv_at hl 1 rfl) ?_
  refine lv_iload_n hx hb dX12_after_9 rfl (lv_at hl 2 rfl) ?_
  refine lv_lload_n hx hb dX12_after_10 rfl (lv_at hl 3 rfl) ?_
  have hPc := hP.sub (ws' := [(g0, .inr (11, mF a 0 0 1000 0))]) [0] rfl
  have hDc := hD.sub (ws' := [(g0, .inr (11, mF a 0 0 1000 0))]) [0] (by decide) rfl
  have hKc := hK.sub (tys' := []) [] rfl
  have hFc := va_free (wc := [(g0, .inr (11, mF a 0 0 1000 0))]) hD hS hA [0] rfl
  refine va_calli (va_runV (As := [.int 10, .int p0, .int p1, .long p2]) (rest := []) ⟨hx, hb, hml, hown, hts⟩ (c_X12_by l dC dI a g0 10 p0 p1 p2 H.size) (cwV 4 hts gX12_after_X12_by rfl rfl rfl (by decide +kernel) ⟨Nat.le_of_ble_eq_true rfl, Nat.le_of_ble_eq_true rfl⟩) ⟨fun a U g mk q => by obtain ⟨q0, q1, qP, qK, qD⟩ := q; exact ⟨q0, q1, qP, va_K.moved (u := U) (U := U.calling g mk a) (Vm.Alike.refl U.vm) qK, qD⟩, va_recv hKc hPc (ci := 11) (q0 := 0) rfl rfl, fun U hU hW => ⟨rfl, by rw [hU], by rw [hU]; exact hPc, va_K.moved hW.alike hKc, hDc.weaken (fun _ _ _ _ => trivial)⟩⟩ rfl rfl hl.1 rfl (lv_room (Nat.le_of_ble_eq_true rfl)) dX12_after_11 ⟨Nat.le_of_ble_eq_true rfl, Nat.le_of_ble_eq_true rfl⟩) hS (fun q _ h => hFc q h) hFc (fun r_1 u_2 t H1 locs ht hvm hw hB hz1 hk1 hS => ?_)
  obtain ⟨hP1, hK1, hD1⟩ := hB
  rw [ht] at hP1
  have hK1 := va_K.moved hvm.symm hK1
  have hK := hK.app hK1
  obtain ⟨hP, hD⟩ := va_join (wr := []) (w1 := [(g0, .inr (11, mF a 0 0 1000 1))]) hP hD [0] [] rfl rfl (by decide) (by decide) hk1 hFc hP1 hD1
  generalize H1 = H at hP hS ⊢
  have hP : va_P (dC, dI) vwCl [(g0, .inr (11, mF a 0 0 1000 1))] H := hP
  have hD : va_D A [(g0, .inr (11, mF a 0 0 1000 1))] := hD
  have hK : va_K (dC, dI) vwCl [] s := hK
  refine W.widen (k := 0) (n := 0) (Nat.le_of_ble_eq_true rfl) (Nat.le_of_ble_eq_true rfl) ?_
  obtain rfl : r_1 = 0 := hw
  refine W.widen (k := 0) (n := 0) (Nat.le_of_ble_eq_true rfl) (Nat.le_of_ble_eq_true rfl) ?_
  have hP9 := hP.sub (ws' := [(g0, .inr (11, mF a 0 0 1000 1))]) [0] rfl
  have hD9 := hD.sub (ws' := [(g0, .inr (11, mF a 0 0 1000 1))]) [0] (by decide) rfl
  have hK9 := hK.sub (tys' := []) [] rfl
  exact W.iret (v := 0) hx hb hr (fun t ht hW => ⟨⟨0, (0, 0, 1000, 1), rfl, rfl, by rw [ht]; exact hP9, va_K.moved hW.alike hK9, hD9⟩, hS.F ht⟩) hS.2.2 dX12_after_14
set_option maxHeartbeats 4000000 in
set_option maxRecDepth 100000 in
theorem c_X12_put (l : Launch) (dC : Nat → ClassId) (dI : Nat → Nat → Nat) (a : Nat → Nat) (g0 : Nat) (cI : ClassId) (cJ : ClassId) (f13 : Nat → Int32) (f14 : Nat → Int64) (p0 : Int64) (sz : Nat) : Met l yX12_put wsX12_put ({ frames := 20, cells := 0, slots := 0, locals := 600 }) (va_Pc [.ref g0, .long p0] (fun U => U.heap.size = sz ∧ va_P (dC, dI) vwCl [(g0, .inr (11, mF a 0 0 1000 0)), (a 13, .inl (cI, 100, .inl (f13))), (a 14, .inl (cJ, 100, .inr (.inl (f14))))] U.heap ∧ va_K (dC, dI) vwCl [(cI, .int), (cJ, .long)] U ∧ va_D (fun _ => True) [(g0, .inr (11, mF a 0 0 1000 0)), (a 13, .inl (cI, 100, .inl (f13))), (a 14, .inl (cJ, 100, .inr (.inl (f14))))])) (va_Qi (fun (r : Int32) (u : Int32 × Int32 × Int32 × Int32) => u.2.2.2 = 0 ∧ (0 = 0 → r = 1)) (fun (u : Int32 × Int32 × Int32 × Int32) (t : State) => va_P (dC, dI) vwCl [(g0, .inr (11, mF a u.1 u.2.1 u.2.2.1 u.2.2.2))] t.heap ∧ va_K (dC, dI) vwCl [] t ∧ va_D (va_A [(g0, .inr (11, mF a 0 0 1000 0)), (a 13, .inl (cI, 100, .inl (f13))), (a 14, .inl (cJ, 100, .inr (.inl (f14))))] sz) [(g0, .inr (11, mF a u.1 u.2.1 u.2.2.1 u.2.2.2))]) (va_A [(g0, .inr (11, mF a 0 0 1000 0)), (a 13, .inl (cI, 100, .inl (f13))), (a 14, .inl (cJ, 100, .inr (.inl (f14))))] sz)) 0 0 (va_A [(g0, .inr (11, mF a 0 0 1000 0)), (a 13, .inl (cI, 100, .inl (f13))), (a 14, .inl (cJ, 100, .inr (.inl (f14))))] sz) := by
  refine Met.ofW (cc := cX12_put) (maxL := 3) (ret := (some .int)) (by decide) rfl ?_
  intro p e s m args below meth c s₁ B hml hv
  obtain ⟨rfl, hsz, hP, hK, hD0⟩ := hv
  have hx := B.exec
  have hb := B.bytes
  have hr := B.returns
  have hts := atoms_spec (ws := wsX12_put) B.pre
  have hown : s.vm.findClass RX12 = some m.cls := findClass_of_methodNamed B.named
  have hlocks := B.notSynchronized
  subst hsz
  have hD := hD0.self (sz := s.heap.size)
  generalize hAe : va_A [(g0, .inr (11, mF a 0 0 1000 0)), (a 13, .inl (cI, 100, .inl (f13))), (a 14, .inl (cJ, 100, .inr (.inl (f14))))] s.heap.size = A at hD ⊢
  have hA : ∀ q : Nat, s.heap.size ≤ q → A q := fun q h => by rw [← hAe]; exact Or.inr h
  generalize hH : s.heap = H at hP ⊢
  have hS : va_S A s.heap H [] := by rw [← hH]; exact va_S.rf
  have hl := lv_entry [.ref g0, .long p0] (n := 3) (Nat.le_of_ble_eq_true rfl)
  rw [lg_entry_eq]
  generalize (lg_sl [.ref g0, .long p0] ++ List.replicate (3 - (lg_sl [.ref g0, .long p0]).length) Slot.unset).toArray = ls at hl ⊢
  have hl : lv_has ls 3 [(0, .ref g0), (1, .long p0)] := hl
  have hP : va_P (dC, dI) vwCl [(g0, .inr (11, mF a 0 0 1000 0)), (a 13, .inl (cI, 100, .inl (f13))), (a 14, .inl (cJ, 100, .inr (.inl (f14))))] H := hP
  refine lv_aload_n hx hb dX12_put_0 rfl (lv_at hl 0 rfl) ?_
  refine lv_iconst (v := 0) hx hb dX12_put_1 (by decide) ?_
  refine va_put (D := (dC, dI)) (ci := 11) (v := .int 0) (ty := .int) (C := RX12) (T := TX12) (N := 32) hx hb hts (by decide +kernel) tyX12 tyX12_ok nmX12 hown hK hP hD hS 0 rfl rfl 19 (by decide) (hts (.fieldLink RX12 63 "NeededListsModel" "thrown" "I") (by decide +kernel)) (fun _ h9 => h9) rfl (by decide +kernel) rfl rfl (Nat.le_of_ble_eq_true rfl) dX12_put_2 (fun H locs hP hD hS => ?_)
  have hP : va_P (dC, dI) vwCl [(g0, .inr (11, mF a 0 0 1000 0)), (a 13, .inl (cI, 100, .inl (f13))), (a 14, .inl (cJ, 100, .inr (.inl (f14))))] H := hP
  have hD : va_D A [(g0, .inr (11, mF a 0 0 1000 0)), (a 13, .inl (cI, 100, .inl (f13))), (a 14, .inl (cJ, 100, .inr (.inl (f14))))] := hD
  refine lv_aload_n hx hb dX12_put_5 rfl (lv_at hl 0 rfl) ?_
  refine va_get (D := (dC, dI)) (ci := 11) (v := .int 0) (C := RX12) (T := TX12) (N := 32) hx hb hts (by decide +kernel) hown hK hP 0 rfl rfl 12 (by decide) (hts (.fieldLink RX12 69 "NeededListsModel" "many" "I") (by decide +kernel)) (fun _ h9 => h9) rfl dX12_put_6 ?_
  refine lv_bipush (v := 100) hx hb dX12_put_9 (by decide) ?_
  refine lv_icmp_ne (tgt := 20) hx hb dX12_put_11 (by decide) (fun c_11 => ?_) (fun c_11 => ?_)
  · refine lv_aload_n hx hb dX12_put_20 rfl (lv_at hl 0 rfl) ?_
    refine va_get (D := (dC, dI)) (ci := 11) (v := .ref (a 13)) (C := RX12) (T := TX12) (N := 32) hx hb hts (by decide +kernel) hown hK hP 0 rfl rfl 13 (by decide) (hts (.fieldLink RX12 44 "NeededListsModel" "rowItem" "[I") (by decide +kernel)) (fun _ h9 => h9) rfl dX12_put_21 ?_
    refine lv_aload_n hx hb dX12_put_24 rfl (lv_at hl 0 rfl) ?_
    refine va_get (D := (dC, dI)) (ci := 11) (v := .int 0) (C := RX12) (T := TX12) (N := 32) hx hb hts (by decide +kernel) hown hK hP 0 rfl rfl 12 (by decide) (hts (.fieldLink RX12 69 "NeededListsModel" "many" "I") (by decide +kernel)) (fun _ h9 => h9) rfl dX12_put_25 ?_
    refine lv_iconst (v := 1) hx hb dX12_put_28 (by decide) ?_
    refine va_iast hx hb hK hP hD hS 1 0 rfl rfl (nd_in (i := 0) (n := 100) (by decide)) dX12_put_29 (fun H locs hP hD hS => ?_)
    obtain ⟨f_1, ef_1⟩ : ∃ z, z = upd f13 ((0 : Int32).toNatClampNeg) 1 := ⟨_, rfl⟩
    have hP : va_P (dC, dI) vwCl [(g0, .inr (11, mF a 0 0 1000 0)), (a 13, .inl (cI, 100, .inl (upd f13 ((0 : Int32).toNatClampNeg) 1))), (a 14, .inl (cJ, 100, .inr (.inl (f14))))] H := hP
    have hD : va_D A [(g0, .inr (11, mF a 0 0 1000 0)), (a 13, .inl (cI, 100, .inl (upd f13 ((0 : Int32).toNatClampNeg) 1))), (a 14, .inl (cJ, 100, .inr (.inl (f14))))] := hD
    rw [← ef_1] at hP hD
    refine lv_aload_n hx hb dX12_put_30 rfl (lv_at hl 0 rfl) ?_
    refine va_get (D := (dC, dI)) (ci := 11) (v := .ref (a 14)) (C := RX12) (T := TX12) (N := 32) hx hb hts (by decide +kernel) hown hK hP 0 rfl rfl 14 (by decide) (hts (.fieldLink RX12 47 "NeededListsModel" "rowValue" "[J") (by decide +kernel)) (fun _ h9 => h9) rfl dX12_put_31 ?_
    refine lv_aload_n hx hb dX12_put_34 rfl (lv_at hl 0 rfl) ?_
    refine va_get (D := (dC, dI)) (ci := 11) (v := .int 0) (C := RX12) (T := TX12) (N := 32) hx hb hts (by decide +kernel) hown hK hP 0 rfl rfl 12 (by decide) (hts (.fieldLink RX12 69 "NeededListsModel" "many" "I") (by decide +kernel)) (fun _ h9 => h9) rfl dX12_put_35 ?_
    refine lv_lload_n hx hb dX12_put_38 rfl (lv_at hl 1 rfl) ?_
    refine va_last hx hb hK hP hD hS 2 1 rfl rfl (nd_in (i := 0) (n := 100) (by decide)) dX12_put_39 (fun H locs hP hD hS => ?_)
    obtain ⟨f_2, ef_2⟩ : ∃ z, z = vp_updL f14 ((0 : Int32).toNatClampNeg) p0 := ⟨_, rfl⟩
    have hP : va_P (dC, dI) vwCl [(g0, .inr (11, mF a 0 0 1000 0)), (a 13, .inl (cI, 100, .inl (f_1))), (a 14, .inl (cJ, 100, .inr (.inl (vp_updL f14 ((0 : Int32).toNatClampNeg) p0))))] H := hP
    have hD : va_D A [(g0, .inr (11, mF a 0 0 1000 0)), (a 13, .inl (cI, 100, .inl (f_1))), (a 14, .inl (cJ, 100, .inr (.inl (vp_updL f14 ((0 : Int32).toNatClampNeg) p0))))] := hD
    rw [← ef_2] at hP hD
    refine lv_aload_n hx hb dX12_put_40 rfl (lv_at hl 0 rfl) ?_
    refine lv_dup hx hb dX12_put_41 rfl ?_
    refine va_get (D := (dC, dI)) (ci := 11) (v := .int 0) (C := RX12) (T := TX12) (N := 32) hx hb hts (by decide +kernel) hown hK hP 0 rfl rfl 12 (by decide) (hts (.fieldLink RX12 69 "NeededListsModel" "many" "I") (by decide +kernel)) (fun _ h9 => h9) rfl dX12_put_42 ?_
    refine lv_iconst (v := 1) hx hb dX12_put_45 (by decide) ?_
    refine lv_iadd hx hb dX12_put_46 ?_
    refine lv_topi (fun z_3 ez_3 => ?_)
    obtain rfl : z_3 = 1 := ez_3.trans (by decide)
    refine va_put (D := (dC, dI)) (ci := 11) (v := .int 1) (ty := .int) (C := RX12) (T := TX12) (N := 32) hx hb hts (by decide +kernel) tyX12 tyX12_ok nmX12 hown hK hP hD hS 0 rfl rfl 12 (by decide) (hts (.fieldLink RX12 69 "NeededListsModel" "many" "I") (by decide +kernel)) (fun _ h9 => h9) rfl (by decide +kernel) rfl rfl (Nat.le_of_ble_eq_true rfl) dX12_put_47 (fun H locs hP hD hS => ?_)
    have hP : va_P (dC, dI) vwCl [(g0, .inr (11, mF a 0 1 1000 0)), (a 13, .inl (cI, 100, .inl (f_1))), (a 14, .inl (cJ, 100, .inr (.inl (f_2))))] H := hP
    have hD : va_D A [(g0, .inr (11, mF a 0 1 1000 0)), (a 13, .inl (cI, 100, .inl (f_1))), (a 14, .inl (cJ, 100, .inr (.inl (f_2))))] := hD
    refine lv_aload_n hx hb dX12_put_50 rfl (lv_at hl 0 rfl) ?_
    refine va_get (D := (dC, dI)) (ci := 11) (v := .int 1) (C := RX12) (T := TX12) (N := 32) hx hb hts (by decide +kernel) hown hK hP 0 rfl rfl 12 (by decide) (hts (.fieldLink RX12 69 "NeededListsModel" "many" "I") (by decide +kernel)) (fun _ h9 => h9) rfl dX12_put_51 ?_
    refine W.widen (k := 0) (n := 0) (Nat.le_of_ble_eq_true rfl) (Nat.le_of_ble_eq_true rfl) ?_
    have hP9 := hP.sub (ws' := [(g0, .inr (11, mF a 0 1 1000 0))]) [0] rfl
    have hD9 := hD.sub (ws' := [(g0, .inr (11, mF a 0 1 1000 0))]) [0] (by decide) rfl
    have hK9 := hK.sub (tys' := []) [] rfl
    exact W.iret (v := 1) hx hb hr (fun t ht hW => ⟨⟨1, (0, 1, 1000, 0), rfl, ⟨rfl, fun _ => rfl⟩, by rw [ht]; exact hP9, va_K.moved hW.alike hK9, hD9⟩, hS.F ht⟩) hS.2.2 dX12_put_54
  · exact absurd c_11 (by decide)
set_option maxHeartbeats 4000000 in
set_option maxRecDepth 100000 in
theorem c_X12_hole (l : Launch) (dC : Nat → ClassId) (dI : Nat → Nat → Nat) (a : Nat → Nat) (g0 : Nat) (cI : ClassId) (cJ : ClassId) (f13 : Nat → Int32) (p0 : Int32) (sz : Nat) : Met l yX12_hole wsX12_hole ({ frames := 20, cells := 0, slots := 0, locals := 600 }) (va_Pc [.ref g0, .int p0] (fun U => U.heap.size = sz ∧ va_P (dC, dI) vwCl [(g0, .inr (11, mF a 0 0 1000 0)), (a 13, .inl (cI, 100, .inl (f13)))] U.heap ∧ va_K (dC, dI) vwCl [(cI, .int), (cJ, .long)] U ∧ va_D (fun _ => True) [(g0, .inr (11, mF a 0 0 1000 0)), (a 13, .inl (cI, 100, .inl (f13)))])) (va_Qi (fun (r : Int32) (u : Int32 × Int32 × Int32 × Int32) => u.2.2.2 = kHole p0 ∧ (kHole p0 = 0 → r = 1)) (fun (u : Int32 × Int32 × Int32 × Int32) (t : State) => va_P (dC, dI) vwCl [(g0, .inr (11, mF a u.1 u.2.1 u.2.2.1 u.2.2.2))] t.heap ∧ va_K (dC, dI) vwCl [] t ∧ va_D (va_A [(g0, .inr (11, mF a 0 0 1000 0)), (a 13, .inl (cI, 100, .inl (f13)))] sz) [(g0, .inr (11, mF a u.1 u.2.1 u.2.2.1 u.2.2.2))]) (va_A [(g0, .inr (11, mF a 0 0 1000 0)), (a 13, .inl (cI, 100, .inl (f13)))] sz)) 0 0 (va_A [(g0, .inr (11, mF a 0 0 1000 0)), (a 13, .inl (cI, 100, .inl (f13)))] sz) := by
  refine Met.ofW (cc := cX12_hole) (maxL := 2) (ret := (some .int)) (by decide) rfl ?_
  intro p e s m args below meth c s₁ B hml hv
  obtain ⟨rfl, hsz, hP, hK, hD0⟩ := hv
  have hx := B.exec
  have hb := B.bytes
  have hr := B.returns
  have hts := atoms_spec (ws := wsX12_hole) B.pre
  have hown : s.vm.findClass RX12 = some m.cls := findClass_of_methodNamed B.named
  have hlocks := B.notSynchronized
  subst hsz
  have hD := hD0.self (sz := s.heap.size)
  generalize hAe : va_A [(g0, .inr (11, mF a 0 0 1000 0)), (a 13, .inl (cI, 100, .inl (f13)))] s.heap.size = A at hD ⊢
  have hA : ∀ q : Nat, s.heap.size ≤ q → A q := fun q h => by rw [← hAe]; exact Or.inr h
  generalize hH : s.heap = H at hP ⊢
  have hS : va_S A s.heap H [] := by rw [← hH]; exact va_S.rf
  have hl := lv_entry [.ref g0, .int p0] (n := 2) (Nat.le_of_ble_eq_true rfl)
  rw [lg_entry_eq]
  generalize (lg_sl [.ref g0, .int p0] ++ List.replicate (2 - (lg_sl [.ref g0, .int p0]).length) Slot.unset).toArray = ls at hl ⊢
  have hl : lv_has ls 2 [(0, .ref g0), (1, .int p0)] := hl
  have hP : va_P (dC, dI) vwCl [(g0, .inr (11, mF a 0 0 1000 0)), (a 13, .inl (cI, 100, .inl (f13)))] H := hP
  refine lv_aload_n hx hb dX12_hole_0 rfl (lv_at hl 0 rfl) ?_
  refine lv_iconst (v := 0) hx hb dX12_hole_1 (by decide) ?_
  refine va_put (D := (dC, dI)) (ci := 11) (v := .int 0) (ty := .int) (C := RX12) (T := TX12) (N := 32) hx hb hts (by decide +kernel) tyX12 tyX12_ok nmX12 hown hK hP hD hS 0 rfl rfl 19 (by decide) (hts (.fieldLink RX12 63 "NeededListsModel" "thrown" "I") (by decide +kernel)) (fun _ h9 => h9) rfl (by decide +kernel) rfl rfl (Nat.le_of_ble_eq_true rfl) dX12_hole_2 (fun H locs hP hD hS => ?_)
  have hP : va_P (dC, dI) vwCl [(g0, .inr (11, mF a 0 0 1000 0)), (a 13, .inl (cI, 100, .inl (f13)))] H := hP
  have hD : va_D A [(g0, .inr (11, mF a 0 0 1000 0)), (a 13, .inl (cI, 100, .inl (f13)))] := hD
  refine lv_iload_n hx hb dX12_hole_5 rfl (lv_at hl 1 rfl) ?_
  refine lv_if_eq (tgt := 20) hx hb dX12_hole_6 (by decide) (fun c_6 => ?_) (fun c_6 => ?_)
  · refine lv_aload_n hx hb dX12_hole_20 rfl (lv_at hl 0 rfl) ?_
    refine va_get (D := (dC, dI)) (ci := 11) (v := .int 0) (C := RX12) (T := TX12) (N := 32) hx hb hts (by decide +kernel) hown hK hP 0 rfl rfl 12 (by decide) (hts (.fieldLink RX12 69 "NeededListsModel" "many" "I") (by decide +kernel)) (fun _ h9 => h9) rfl dX12_hole_21 ?_
    refine lv_bipush (v := 100) hx hb dX12_hole_24 (by decide) ?_
    refine lv_icmp_ne (tgt := 35) hx hb dX12_hole_26 (by decide) (fun c_26 => ?_) (fun c_26 => ?_)
    · refine lv_aload_n hx hb dX12_hole_35 rfl (lv_at hl 0 rfl) ?_
      refine va_get (D := (dC, dI)) (ci := 11) (v := .ref (a 13)) (C := RX12) (T := TX12) (N := 32) hx hb hts (by decide +kernel) hown hK hP 0 rfl rfl 13 (by decide) (hts (.fieldLink RX12 44 "NeededListsModel" "rowItem" "[I") (by decide +kernel)) (fun _ h9 => h9) rfl dX12_hole_36 ?_
      refine lv_aload_n hx hb dX12_hole_39 rfl (lv_at hl 0 rfl) ?_
      refine va_get (D := (dC, dI)) (ci := 11) (v := .int 0) (C := RX12) (T := TX12) (N := 32) hx hb hts (by decide +kernel) hown hK hP 0 rfl rfl 12 (by decide) (hts (.fieldLink RX12 69 "NeededListsModel" "many" "I") (by decide +kernel)) (fun _ h9 => h9) rfl dX12_hole_40 ?_
      refine lv_iload_n hx hb dX12_hole_43 rfl (lv_at hl 1 rfl) ?_
      refine lv_if_ne (tgt := 51) hx hb dX12_hole_44 (by decide) (fun c_44 => ?_) (fun c_44 => ?_)
      · refine lv_bipush (v := 7) hx hb dX12_hole_51 (by decide) ?_
        refine va_iast hx hb hK hP hD hS 1 0 rfl rfl (nd_in (i := 0) (n := 100) (by decide)) dX12_hole_53 (fun H locs hP hD hS => ?_)
        obtain ⟨f_1, ef_1⟩ : ∃ z, z = upd f13 ((0 : Int32).toNatClampNeg) 7 := ⟨_, rfl⟩
        have hP : va_P (dC, dI) vwCl [(g0, .inr (11, mF a 0 0 1000 0)), (a 13, .inl (cI, 100, .inl (upd f13 ((0 : Int32).toNatClampNeg) 7)))] H := hP
        have hD : va_D A [(g0, .inr (11, mF a 0 0 1000 0)), (a 13, .inl (cI, 100, .inl (upd f13 ((0 : Int32).toNatClampNeg) 7)))] := hD
        rw [← ef_1] at hP hD
        refine lv_aload_n hx hb dX12_hole_54 rfl (lv_at hl 0 rfl) ?_
        refine lv_dup hx hb dX12_hole_55 rfl ?_
        refine va_get (D := (dC, dI)) (ci := 11) (v := .int 0) (C := RX12) (T := TX12) (N := 32) hx hb hts (by decide +kernel) hown hK hP 0 rfl rfl 12 (by decide) (hts (.fieldLink RX12 69 "NeededListsModel" "many" "I") (by decide +kernel)) (fun _ h9 => h9) rfl dX12_hole_56 ?_
        refine lv_iconst (v := 1) hx hb dX12_hole_59 (by decide) ?_
        refine lv_iadd hx hb dX12_hole_60 ?_
        refine lv_topi (fun z_2 ez_2 => ?_)
        obtain rfl : z_2 = 1 := ez_2.trans (by decide)
        refine va_put (D := (dC, dI)) (ci := 11) (v := .int 1) (ty := .int) (C := RX12) (T := TX12) (N := 32) hx hb hts (by decide +kernel) tyX12 tyX12_ok nmX12 hown hK hP hD hS 0 rfl rfl 12 (by decide) (hts (.fieldLink RX12 69 "NeededListsModel" "many" "I") (by decide +kernel)) (fun _ h9 => h9) rfl (by decide +kernel) rfl rfl (Nat.le_of_ble_eq_true rfl) dX12_hole_61 (fun H locs hP hD hS => ?_)
        have hP : va_P (dC, dI) vwCl [(g0, .inr (11, mF a 0 1 1000 0)), (a 13, .inl (cI, 100, .inl (f_1)))] H := hP
        have hD : va_D A [(g0, .inr (11, mF a 0 1 1000 0)), (a 13, .inl (cI, 100, .inl (f_1)))] := hD
        refine lv_aload_n hx hb dX12_hole_64 rfl (lv_at hl 0 rfl) ?_
        refine va_get (D := (dC, dI)) (ci := 11) (v := .int 1) (C := RX12) (T := TX12) (N := 32) hx hb hts (by decide +kernel) hown hK hP 0 rfl rfl 12 (by decide) (hts (.fieldLink RX12 69 "NeededListsModel" "many" "I") (by decide +kernel)) (fun _ h9 => h9) rfl dX12_hole_65 ?_
        refine W.widen (k := 0) (n := 0) (Nat.le_of_ble_eq_true rfl) (Nat.le_of_ble_eq_true rfl) ?_
        have hP9 := hP.sub (ws' := [(g0, .inr (11, mF a 0 1 1000 0))]) [0] rfl
        have hD9 := hD.sub (ws' := [(g0, .inr (11, mF a 0 1 1000 0))]) [0] (by decide) rfl
        have hK9 := hK.sub (tys' := []) [] rfl
        exact W.iret (v := 1) hx hb hr (fun t ht hW => ⟨⟨1, (0, 1, 1000, 0), rfl, ⟨(if_pos c_6).symm, fun _ => rfl⟩, by rw [ht]; exact hP9, va_K.moved hW.alike hK9, hD9⟩, hS.F ht⟩) hS.2.2 dX12_hole_68
      · refine lv_iconst (v := 3) hx hb dX12_hole_47 (by decide) ?_
        refine lv_goto (tgt := 53) hx hb dX12_hole_48 (by decide) ?_
        refine va_iast hx hb hK hP hD hS 1 0 rfl rfl (nd_in (i := 0) (n := 100) (by decide)) dX12_hole_53 (fun H locs hP hD hS => ?_)
        obtain ⟨f_3, ef_3⟩ : ∃ z, z = upd f13 ((0 : Int32).toNatClampNeg) 3 := ⟨_, rfl⟩
        have hP : va_P (dC, dI) vwCl [(g0, .inr (11, mF a 0 0 1000 0)), (a 13, .inl (cI, 100, .inl (upd f13 ((0 : Int32).toNatClampNeg) 3)))] H := hP
        have hD : va_D A [(g0, .inr (11, mF a 0 0 1000 0)), (a 13, .inl (cI, 100, .inl (upd f13 ((0 : Int32).toNatClampNeg) 3)))] := hD
        rw [← ef_3] at hP hD
        refine lv_aload_n hx hb dX12_hole_54 rfl (lv_at hl 0 rfl) ?_
        refine lv_dup hx hb dX12_hole_55 rfl ?_
        refine va_get (D := (dC, dI)) (ci := 11) (v := .int 0) (C := RX12) (T := TX12) (N := 32) hx hb hts (by decide +kernel) hown hK hP 0 rfl rfl 12 (by decide) (hts (.fieldLink RX12 69 "NeededListsModel" "many" "I") (by decide +kernel)) (fun _ h9 => h9) rfl dX12_hole_56 ?_
        refine lv_iconst (v := 1) hx hb dX12_hole_59 (by decide) ?_
        refine lv_iadd hx hb dX12_hole_60 ?_
        refine lv_topi (fun z_4 ez_4 => ?_)
        obtain rfl : z_4 = 1 := ez_4.trans (by decide)
        refine va_put (D := (dC, dI)) (ci := 11) (v := .int 1) (ty := .int) (C := RX12) (T := TX12) (N := 32) hx hb hts (by decide +kernel) tyX12 tyX12_ok nmX12 hown hK hP hD hS 0 rfl rfl 12 (by decide) (hts (.fieldLink RX12 69 "NeededListsModel" "many" "I") (by decide +kernel)) (fun _ h9 => h9) rfl (by decide +kernel) rfl rfl (Nat.le_of_ble_eq_true rfl) dX12_hole_61 (fun H locs hP hD hS => ?_)
        have hP : va_P (dC, dI) vwCl [(g0, .inr (11, mF a 0 1 1000 0)), (a 13, .inl (cI, 100, .inl (f_3)))] H := hP
        have hD : va_D A [(g0, .inr (11, mF a 0 1 1000 0)), (a 13, .inl (cI, 100, .inl (f_3)))] := hD
        refine lv_aload_n hx hb dX12_hole_64 rfl (lv_at hl 0 rfl) ?_
        refine va_get (D := (dC, dI)) (ci := 11) (v := .int 1) (C := RX12) (T := TX12) (N := 32) hx hb hts (by decide +kernel) hown hK hP 0 rfl rfl 12 (by decide) (hts (.fieldLink RX12 69 "NeededListsModel" "many" "I") (by decide +kernel)) (fun _ h9 => h9) rfl dX12_hole_65 ?_
        refine W.widen (k := 0) (n := 0) (Nat.le_of_ble_eq_true rfl) (Nat.le_of_ble_eq_true rfl) ?_
        have hP9 := hP.sub (ws' := [(g0, .inr (11, mF a 0 1 1000 0))]) [0] rfl
        have hD9 := hD.sub (ws' := [(g0, .inr (11, mF a 0 1 1000 0))]) [0] (by decide) rfl
        have hK9 := hK.sub (tys' := []) [] rfl
        exact W.iret (v := 1) hx hb hr (fun t ht hW => ⟨⟨1, (0, 1, 1000, 0), rfl, ⟨(if_pos c_6).symm, fun _ => rfl⟩, by rw [ht]; exact hP9, va_K.moved hW.alike hK9, hD9⟩, hS.F ht⟩) hS.2.2 dX12_hole_68
    · exact absurd c_26 (by decide)
  · refine lv_iload_n hx hb dX12_hole_9 rfl (lv_at hl 1 rfl) ?_
    refine lv_iconst (v := 1) hx hb dX12_hole_10 (by decide) ?_
    refine lv_icmp_eq (tgt := 20) hx hb dX12_hole_11 (by decide) (fun c_11 => ?_) (fun c_11 => ?_)
    · refine lv_aload_n hx hb dX12_hole_20 rfl (lv_at hl 0 rfl) ?_
      refine va_get (D := (dC, dI)) (ci := 11) (v := .int 0) (C := RX12) (T := TX12) (N := 32) hx hb hts (by decide +kernel) hown hK hP 0 rfl rfl 12 (by decide) (hts (.fieldLink RX12 69 "NeededListsModel" "many" "I") (by decide +kernel)) (fun _ h9 => h9) rfl dX12_hole_21 ?_
      refine lv_bipush (v := 100) hx hb dX12_hole_24 (by decide) ?_
      refine lv_icmp_ne (tgt := 35) hx hb dX12_hole_26 (by decide) (fun c_26 => ?_) (fun c_26 => ?_)
      · refine lv_aload_n hx hb dX12_hole_35 rfl (lv_at hl 0 rfl) ?_
        refine va_get (D := (dC, dI)) (ci := 11) (v := .ref (a 13)) (C := RX12) (T := TX12) (N := 32) hx hb hts (by decide +kernel) hown hK hP 0 rfl rfl 13 (by decide) (hts (.fieldLink RX12 44 "NeededListsModel" "rowItem" "[I") (by decide +kernel)) (fun _ h9 => h9) rfl dX12_hole_36 ?_
        refine lv_aload_n hx hb dX12_hole_39 rfl (lv_at hl 0 rfl) ?_
        refine va_get (D := (dC, dI)) (ci := 11) (v := .int 0) (C := RX12) (T := TX12) (N := 32) hx hb hts (by decide +kernel) hown hK hP 0 rfl rfl 12 (by decide) (hts (.fieldLink RX12 69 "NeededListsModel" "many" "I") (by decide +kernel)) (fun _ h9 => h9) rfl dX12_hole_40 ?_
        refine lv_iload_n hx hb dX12_hole_43 rfl (lv_at hl 1 rfl) ?_
        refine lv_if_ne (tgt := 51) hx hb dX12_hole_44 (by decide) (fun c_44 => ?_) (fun c_44 => ?_)
        · refine lv_bipush (v := 7) hx hb dX12_hole_51 (by decide) ?_
          refine va_iast hx hb hK hP hD hS 1 0 rfl rfl (nd_in (i := 0) (n := 100) (by decide)) dX12_hole_53 (fun H locs hP hD hS => ?_)
          obtain ⟨f_1, ef_1⟩ : ∃ z, z = upd f13 ((0 : Int32).toNatClampNeg) 7 := ⟨_, rfl⟩
          have hP : va_P (dC, dI) vwCl [(g0, .inr (11, mF a 0 0 1000 0)), (a 13, .inl (cI, 100, .inl (upd f13 ((0 : Int32).toNatClampNeg) 7)))] H := hP
          have hD : va_D A [(g0, .inr (11, mF a 0 0 1000 0)), (a 13, .inl (cI, 100, .inl (upd f13 ((0 : Int32).toNatClampNeg) 7)))] := hD
          rw [← ef_1] at hP hD
          refine lv_aload_n hx hb dX12_hole_54 rfl (lv_at hl 0 rfl) ?_
          refine lv_dup hx hb dX12_hole_55 rfl ?_
          refine va_get (D := (dC, dI)) (ci := 11) (v := .int 0) (C := RX12) (T := TX12) (N := 32) hx hb hts (by decide +kernel) hown hK hP 0 rfl rfl 12 (by decide) (hts (.fieldLink RX12 69 "NeededListsModel" "many" "I") (by decide +kernel)) (fun _ h9 => h9) rfl dX12_hole_56 ?_
          refine lv_iconst (v := 1) hx hb dX12_hole_59 (by decide) ?_
          refine lv_iadd hx hb dX12_hole_60 ?_
          refine lv_topi (fun z_2 ez_2 => ?_)
          obtain rfl : z_2 = 1 := ez_2.trans (by decide)
          refine va_put (D := (dC, dI)) (ci := 11) (v := .int 1) (ty := .int) (C := RX12) (T := TX12) (N := 32) hx hb hts (by decide +kernel) tyX12 tyX12_ok nmX12 hown hK hP hD hS 0 rfl rfl 12 (by decide) (hts (.fieldLink RX12 69 "NeededListsModel" "many" "I") (by decide +kernel)) (fun _ h9 => h9) rfl (by decide +kernel) rfl rfl (Nat.le_of_ble_eq_true rfl) dX12_hole_61 (fun H locs hP hD hS => ?_)
          have hP : va_P (dC, dI) vwCl [(g0, .inr (11, mF a 0 1 1000 0)), (a 13, .inl (cI, 100, .inl (f_1)))] H := hP
          have hD : va_D A [(g0, .inr (11, mF a 0 1 1000 0)), (a 13, .inl (cI, 100, .inl (f_1)))] := hD
          refine lv_aload_n hx hb dX12_hole_64 rfl (lv_at hl 0 rfl) ?_
          refine va_get (D := (dC, dI)) (ci := 11) (v := .int 1) (C := RX12) (T := TX12) (N := 32) hx hb hts (by decide +kernel) hown hK hP 0 rfl rfl 12 (by decide) (hts (.fieldLink RX12 69 "NeededListsModel" "many" "I") (by decide +kernel)) (fun _ h9 => h9) rfl dX12_hole_65 ?_
          refine W.widen (k := 0) (n := 0) (Nat.le_of_ble_eq_true rfl) (Nat.le_of_ble_eq_true rfl) ?_
          have hP9 := hP.sub (ws' := [(g0, .inr (11, mF a 0 1 1000 0))]) [0] rfl
          have hD9 := hD.sub (ws' := [(g0, .inr (11, mF a 0 1 1000 0))]) [0] (by decide) rfl
          have hK9 := hK.sub (tys' := []) [] rfl
          exact W.iret (v := 1) hx hb hr (fun t ht hW => ⟨⟨1, (0, 1, 1000, 0), rfl, ⟨((if_neg c_6).trans (if_pos c_11)).symm, fun _ => rfl⟩, by rw [ht]; exact hP9, va_K.moved hW.alike hK9, hD9⟩, hS.F ht⟩) hS.2.2 dX12_hole_68
        · refine lv_iconst (v := 3) hx hb dX12_hole_47 (by decide) ?_
          refine lv_goto (tgt := 53) hx hb dX12_hole_48 (by decide) ?_
          refine va_iast hx hb hK hP hD hS 1 0 rfl rfl (nd_in (i := 0) (n := 100) (by decide)) dX12_hole_53 (fun H locs hP hD hS => ?_)
          obtain ⟨f_3, ef_3⟩ : ∃ z, z = upd f13 ((0 : Int32).toNatClampNeg) 3 := ⟨_, rfl⟩
          have hP : va_P (dC, dI) vwCl [(g0, .inr (11, mF a 0 0 1000 0)), (a 13, .inl (cI, 100, .inl (upd f13 ((0 : Int32).toNatClampNeg) 3)))] H := hP
          have hD : va_D A [(g0, .inr (11, mF a 0 0 1000 0)), (a 13, .inl (cI, 100, .inl (upd f13 ((0 : Int32).toNatClampNeg) 3)))] := hD
          rw [← ef_3] at hP hD
          refine lv_aload_n hx hb dX12_hole_54 rfl (lv_at hl 0 rfl) ?_
          refine lv_dup hx hb dX12_hole_55 rfl ?_
          refine va_get (D := (dC, dI)) (ci := 11) (v := .int 0) (C := RX12) (T := TX12) (N := 32) hx hb hts (by decide +kernel) hown hK hP 0 rfl rfl 12 (by decide) (hts (.fieldLink RX12 69 "NeededListsModel" "many" "I") (by decide +kernel)) (fun _ h9 => h9) rfl dX12_hole_56 ?_
          refine lv_iconst (v := 1) hx hb dX12_hole_59 (by decide) ?_
          refine lv_iadd hx hb dX12_hole_60 ?_
          refine lv_topi (fun z_4 ez_4 => ?_)
          obtain rfl : z_4 = 1 := ez_4.trans (by decide)
          refine va_put (D := (dC, dI)) (ci := 11) (v := .int 1) (ty := .int) (C := RX12) (T := TX12) (N := 32) hx hb hts (by decide +kernel) tyX12 tyX12_ok nmX12 hown hK hP hD hS 0 rfl rfl 12 (by decide) (hts (.fieldLink RX12 69 "NeededListsModel" "many" "I") (by decide +kernel)) (fun _ h9 => h9) rfl (by decide +kernel) rfl rfl (Nat.le_of_ble_eq_true rfl) dX12_hole_61 (fun H locs hP hD hS => ?_)
          have hP : va_P (dC, dI) vwCl [(g0, .inr (11, mF a 0 1 1000 0)), (a 13, .inl (cI, 100, .inl (f_3)))] H := hP
          have hD : va_D A [(g0, .inr (11, mF a 0 1 1000 0)), (a 13, .inl (cI, 100, .inl (f_3)))] := hD
          refine lv_aload_n hx hb dX12_hole_64 rfl (lv_at hl 0 rfl) ?_
          refine va_get (D := (dC, dI)) (ci := 11) (v := .int 1) (C := RX12) (T := TX12) (N := 32) hx hb hts (by decide +kernel) hown hK hP 0 rfl rfl 12 (by decide) (hts (.fieldLink RX12 69 "NeededListsModel" "many" "I") (by decide +kernel)) (fun _ h9 => h9) rfl dX12_hole_65 ?_
          refine W.widen (k := 0) (n := 0) (Nat.le_of_ble_eq_true rfl) (Nat.le_of_ble_eq_true rfl) ?_
          have hP9 := hP.sub (ws' := [(g0, .inr (11, mF a 0 1 1000 0))]) [0] rfl
          have hD9 := hD.sub (ws' := [(g0, .inr (11, mF a 0 1 1000 0))]) [0] (by decide) rfl
          have hK9 := hK.sub (tys' := []) [] rfl
          exact W.iret (v := 1) hx hb hr (fun t ht hW => ⟨⟨1, (0, 1, 1000, 0), rfl, ⟨((if_neg c_6).trans (if_pos c_11)).symm, fun _ => rfl⟩, by rw [ht]; exact hP9, va_K.moved hW.alike hK9, hD9⟩, hS.F ht⟩) hS.2.2 dX12_hole_68
      · exact absurd c_26 (by decide)
    · refine lv_aload_n hx hb dX12_hole_14 rfl (lv_at hl 0 rfl) ?_
      refine lv_iconst (v := 1) hx hb dX12_hole_15 (by decide) ?_
      have hPc := hP.sub (ws' := [(g0, .inr (11, mF a 0 0 1000 0))]) [0] rfl
      have hDc := hD.sub (ws' := [(g0, .inr (11, mF a 0 0 1000 0))]) [0] (by decide) rfl
      have hKc := hK.sub (tys' := []) [] rfl
      have hFc := va_free (wc := [(g0, .inr (11, mF a 0 0 1000 0))]) hD hS hA [0] rfl
      refine va_calli (va_runV (As := [.int 1]) (rest := []) ⟨hx, hb, hml, hown, hts⟩ (c_X12_fail l dC dI a g0 0 0 1000 0 1 H.size) (cwV 1 hts gX12_hole_X12_fail rfl rfl rfl (by decide +kernel) ⟨Nat.le_of_ble_eq_true rfl, Nat.le_of_ble_eq_true rfl⟩) ⟨fun a U g mk q => by obtain ⟨q0, q1, qP, qK, qD⟩ := q; exact ⟨q0, q1, qP, va_K.moved (u := U) (U := U.calling g mk a) (Vm.Alike.refl U.vm) qK, qD⟩, va_recv hKc hPc (ci := 11) (q0 := 0) rfl rfl, fun U hU hW => ⟨rfl, by rw [hU], by rw [hU]; exact hPc, va_K.moved hW.alike hKc, hDc.weaken (fun _ _ _ _ => trivial)⟩⟩ rfl rfl hl.1 rfl (lv_room (Nat.le_of_ble_eq_true rfl)) dX12_hole_16 ⟨Nat.le_of_ble_eq_true rfl, Nat.le_of_ble_eq_true rfl⟩) hS (fun q _ h => hFc q h) hFc (fun r_1 u_2 t H1 locs ht hvm hw hB hz1 hk1 hS => ?_)
      obtain ⟨hP1, hK1, hD1⟩ := hB
      rw [ht] at hP1
      have hK1 := va_K.moved hvm.symm hK1
      have hK := hK.app hK1
      obtain ⟨hP, hD⟩ := va_join (wr := [(a 13, .inl (cI, 100, .inl (f13)))]) (w1 := [(g0, .inr (11, mF a 0 0 1000 1))]) hP hD [0] [1] rfl rfl (by decide) (by decide) hk1 hFc hP1 hD1
      generalize H1 = H at hP hS ⊢
      have hP : va_P (dC, dI) vwCl [(a 13, .inl (cI, 100, .inl (f13))), (g0, .inr (11, mF a 0 0 1000 1))] H := hP
      have hD : va_D A [(a 13, .inl (cI, 100, .inl (f13))), (g0, .inr (11, mF a 0 0 1000 1))] := hD
      have hK : va_K (dC, dI) vwCl [(cI, .int), (cJ, .long)] s := hK
      refine W.widen (k := 0) (n := 0) (Nat.le_of_ble_eq_true rfl) (Nat.le_of_ble_eq_true rfl) ?_
      obtain rfl : r_1 = 0 := hw
      refine W.widen (k := 0) (n := 0) (Nat.le_of_ble_eq_true rfl) (Nat.le_of_ble_eq_true rfl) ?_
      have hP9 := hP.sub (ws' := [(g0, .inr (11, mF a 0 0 1000 1))]) [1] rfl
      have hD9 := hD.sub (ws' := [(g0, .inr (11, mF a 0 0 1000 1))]) [1] (by decide) rfl
      have hK9 := hK.sub (tys' := []) [] rfl
      exact W.iret (v := 0) hx hb hr (fun t ht hW => ⟨⟨0, (0, 0, 1000, 1), rfl, ⟨((if_neg c_6).trans (if_neg c_11)).symm, fun h => absurd (((if_neg c_6).trans (if_neg c_11)).symm.trans h) (by decide)⟩, by rw [ht]; exact hP9, va_K.moved hW.alike hK9, hD9⟩, hS.F ht⟩) hS.2.2 dX12_hole_19
set_option maxHeartbeats 4000000 in
set_option maxRecDepth 100000 in
theorem c_X12_given (l : Launch) (dC : Nat → ClassId) (dI : Nat → Nat → Nat) (a : Nat → Nat) (g0 : Nat) (cI : ClassId) (cJ : ClassId) (f1 : Nat → Int32) (f2 : Nat → Int32) (f3 : Nat → Int32) (f4 : Nat → Int32) (f5 : Nat → Int64) (f6 : Nat → Int64) (p0 : Int32) (sz : Nat) : Met l yX12_given wsX12_given ({ frames := 20, cells := 0, slots := 0, locals := 600 }) (va_Pc [.ref g0, .int p0] (fun U => U.heap.size = sz ∧ va_P (dC, dI) vwCl [(g0, .inr (11, mF a 0 0 1000 0)), (a 1, .inl (cI, 24, .inl (f1))), (a 2, .inl (cI, 24, .inl (f2))), (a 3, .inl (cI, 24, .inl (f3))), (a 4, .inl (cI, 24, .inl (f4))), (a 5, .inl (cJ, 24, .inr (.inl (f5)))), (a 6, .inl (cJ, 24, .inr (.inl (f6))))] U.heap ∧ va_K (dC, dI) vwCl [(cI, .int), (cJ, .long)] U ∧ va_D (fun _ => True) [(g0, .inr (11, mF a 0 0 1000 0)), (a 1, .inl (cI, 24, .inl (f1))), (a 2, .inl (cI, 24, .inl (f2))), (a 3, .inl (cI, 24, .inl (f3))), (a 4, .inl (cI, 24, .inl (f4))), (a 5, .inl (cJ, 24, .inr (.inl (f5)))), (a 6, .inl (cJ, 24, .inr (.inl (f6))))])) (va_Qi (fun (r : Int32) (u : Int32 × Int32 × Int32 × Int32) => u.2.2.2 = 0 ∧ (0 = 0 → r = 0)) (fun (u : Int32 × Int32 × Int32 × Int32) (t : State) => va_P (dC, dI) vwCl [(g0, .inr (11, mF a u.1 u.2.1 u.2.2.1 u.2.2.2))] t.heap ∧ va_K (dC, dI) vwCl [] t ∧ va_D (va_A [(g0, .inr (11, mF a 0 0 1000 0)), (a 1, .inl (cI, 24, .inl (f1))), (a 2, .inl (cI, 24, .inl (f2))), (a 3, .inl (cI, 24, .inl (f3))), (a 4, .inl (cI, 24, .inl (f4))), (a 5, .inl (cJ, 24, .inr (.inl (f5)))), (a 6, .inl (cJ, 24, .inr (.inl (f6))))] sz) [(g0, .inr (11, mF a u.1 u.2.1 u.2.2.1 u.2.2.2))]) (va_A [(g0, .inr (11, mF a 0 0 1000 0)), (a 1, .inl (cI, 24, .inl (f1))), (a 2, .inl (cI, 24, .inl (f2))), (a 3, .inl (cI, 24, .inl (f3))), (a 4, .inl (cI, 24, .inl (f4))), (a 5, .inl (cJ, 24, .inr (.inl (f5)))), (a 6, .inl (cJ, 24, .inr (.inl (f6))))] sz)) 0 0 (va_A [(g0, .inr (11, mF a 0 0 1000 0)), (a 1, .inl (cI, 24, .inl (f1))), (a 2, .inl (cI, 24, .inl (f2))), (a 3, .inl (cI, 24, .inl (f3))), (a 4, .inl (cI, 24, .inl (f4))), (a 5, .inl (cJ, 24, .inr (.inl (f5)))), (a 6, .inl (cJ, 24, .inr (.inl (f6))))] sz) := by
  refine Met.ofW (cc := cX12_given) (maxL := 3) (ret := (some .int)) (by decide) rfl ?_
  intro p e s m args below meth c s₁ B hml hv
  obtain ⟨rfl, hsz, hP, hK, hD0⟩ := hv
  have hx := B.exec
  have hb := B.bytes
  have hr := B.returns
  have hts := atoms_spec (ws := wsX12_given) B.pre
  have hown : s.vm.findClass RX12 = some m.cls := findClass_of_methodNamed B.named
  have hlocks := B.notSynchronized
  subst hsz
  have hD := hD0.self (sz := s.heap.size)
  generalize hAe : va_A [(g0, .inr (11, mF a 0 0 1000 0)), (a 1, .inl (cI, 24, .inl (f1))), (a 2, .inl (cI, 24, .inl (f2))), (a 3, .inl (cI, 24, .inl (f3))), (a 4, .inl (cI, 24, .inl (f4))), (a 5, .inl (cJ, 24, .inr (.inl (f5)))), (a 6, .inl (cJ, 24, .inr (.inl (f6))))] s.heap.size = A at hD ⊢
  have hA : ∀ q : Nat, s.heap.size ≤ q → A q := fun q h => by rw [← hAe]; exact Or.inr h
  generalize hH : s.heap = H at hP ⊢
  have hS : va_S A s.heap H [] := by rw [← hH]; exact va_S.rf
  have hl := lv_entry [.ref g0, .int p0] (n := 3) (Nat.le_of_ble_eq_true rfl)
  rw [lg_entry_eq]
  generalize (lg_sl [.ref g0, .int p0] ++ List.replicate (3 - (lg_sl [.ref g0, .int p0]).length) Slot.unset).toArray = ls at hl ⊢
  have hl : lv_has ls 3 [(0, .ref g0), (1, .int p0)] := hl
  have hP : va_P (dC, dI) vwCl [(g0, .inr (11, mF a 0 0 1000 0)), (a 1, .inl (cI, 24, .inl (f1))), (a 2, .inl (cI, 24, .inl (f2))), (a 3, .inl (cI, 24, .inl (f3))), (a 4, .inl (cI, 24, .inl (f4))), (a 5, .inl (cJ, 24, .inr (.inl (f5)))), (a 6, .inl (cJ, 24, .inr (.inl (f6))))] H := hP
  refine lv_aload_n hx hb dX12_given_0 rfl (lv_at hl 0 rfl) ?_
  refine lv_iconst (v := 0) hx hb dX12_given_1 (by decide) ?_
  refine va_put (D := (dC, dI)) (ci := 11) (v := .int 0) (ty := .int) (C := RX12) (T := TX12) (N := 32) hx hb hts (by decide +kernel) tyX12 tyX12_ok nmX12 hown hK hP hD hS 0 rfl rfl 19 (by decide) (hts (.fieldLink RX12 63 "NeededListsModel" "thrown" "I") (by decide +kernel)) (fun _ h9 => h9) rfl (by decide +kernel) rfl rfl (Nat.le_of_ble_eq_true rfl) dX12_given_2 (fun H locs hP hD hS => ?_)
  have hP : va_P (dC, dI) vwCl [(g0, .inr (11, mF a 0 0 1000 0)), (a 1, .inl (cI, 24, .inl (f1))), (a 2, .inl (cI, 24, .inl (f2))), (a 3, .inl (cI, 24, .inl (f3))), (a 4, .inl (cI, 24, .inl (f4))), (a 5, .inl (cJ, 24, .inr (.inl (f5)))), (a 6, .inl (cJ, 24, .inr (.inl (f6))))] H := hP
  have hD : va_D A [(g0, .inr (11, mF a 0 0 1000 0)), (a 1, .inl (cI, 24, .inl (f1))), (a 2, .inl (cI, 24, .inl (f2))), (a 3, .inl (cI, 24, .inl (f3))), (a 4, .inl (cI, 24, .inl (f4))), (a 5, .inl (cJ, 24, .inr (.inl (f5)))), (a 6, .inl (cJ, 24, .inr (.inl (f6))))] := hD
  refine lv_aload_n hx hb dX12_given_5 rfl (lv_at hl 0 rfl) ?_
  refine va_get (D := (dC, dI)) (ci := 11) (v := .int 0) (C := RX12) (T := TX12) (N := 32) hx hb hts (by decide +kernel) hown hK hP 0 rfl rfl 0 (by decide) (hts (.fieldLink RX12 66 "NeededListsModel" "lists" "I") (by decide +kernel)) (fun _ h9 => h9) rfl dX12_given_6 ?_
  refine lv_bipush (v := 24) hx hb dX12_given_9 (by decide) ?_
  refine lv_icmp_ne (tgt := 20) hx hb dX12_given_11 (by decide) (fun c_11 => ?_) (fun c_11 => ?_)
  · refine lv_iconst (v := 0) hx hb dX12_given_20 (by decide) ?_
    refine lv_istore_n (lv' := [(2, .int 0), (0, .ref g0), (1, .int p0)]) hx hb dX12_given_21 rfl hl (by decide) rfl (fun ls hl => ?_)
    refine lv_iload_n hx hb dX12_given_22 rfl (lv_at hl 0 rfl) ?_
    refine lv_aload_n hx hb dX12_given_23 rfl (lv_at hl 1 rfl) ?_
    refine va_get (D := (dC, dI)) (ci := 11) (v := .int 0) (C := RX12) (T := TX12) (N := 32) hx hb hts (by decide +kernel) hown hK hP 0 rfl rfl 12 (by decide) (hts (.fieldLink RX12 69 "NeededListsModel" "many" "I") (by decide +kernel)) (fun _ h9 => h9) rfl dX12_given_24 ?_
    refine lv_icmp_ge (tgt := 76) hx hb dX12_given_27 (by decide) (fun c_27 => ?_) (fun c_27 => ?_)
    · refine lv_aload_n hx hb dX12_given_76 rfl (lv_at hl 1 rfl) ?_
      refine va_get (D := (dC, dI)) (ci := 11) (v := .int 0) (C := RX12) (T := TX12) (N := 32) hx hb hts (by decide +kernel) hown hK hP 0 rfl rfl 12 (by decide) (hts (.fieldLink RX12 69 "NeededListsModel" "many" "I") (by decide +kernel)) (fun _ h9 => h9) rfl dX12_given_77 ?_
      refine lv_istore_n (lv' := [(2, .int 0), (0, .ref g0), (1, .int p0)]) hx hb dX12_given_80 rfl hl (by decide) rfl (fun ls hl => ?_)
      refine lv_aload_n hx hb dX12_given_81 rfl (lv_at hl 1 rfl) ?_
      refine lv_iconst (v := 0) hx hb dX12_given_82 (by decide) ?_
      refine va_put (D := (dC, dI)) (ci := 11) (v := .int 0) (ty := .int) (C := RX12) (T := TX12) (N := 32) hx hb hts (by decide +kernel) tyX12 tyX12_ok nmX12 hown hK hP hD hS 0 rfl rfl 12 (by decide) (hts (.fieldLink RX12 69 "NeededListsModel" "many" "I") (by decide +kernel)) (fun _ h9 => h9) rfl (by decide +kernel) rfl rfl (Nat.le_of_ble_eq_true rfl) dX12_given_83 (fun H locs hP hD hS => ?_)
      have hP : va_P (dC, dI) vwCl [(g0, .inr (11, mF a 0 0 1000 0)), (a 1, .inl (cI, 24, .inl (f1))), (a 2, .inl (cI, 24, .inl (f2))), (a 3, .inl (cI, 24, .inl (f3))), (a 4, .inl (cI, 24, .inl (f4))), (a 5, .inl (cJ, 24, .inr (.inl (f5)))), (a 6, .inl (cJ, 24, .inr (.inl (f6))))] H := hP
      have hD : va_D A [(g0, .inr (11, mF a 0 0 1000 0)), (a 1, .inl (cI, 24, .inl (f1))), (a 2, .inl (cI, 24, .inl (f2))), (a 3, .inl (cI, 24, .inl (f3))), (a 4, .inl (cI, 24, .inl (f4))), (a 5, .inl (cJ, 24, .inr (.inl (f5)))), (a 6, .inl (cJ, 24, .inr (.inl (f6))))] := hD
      refine lv_aload_n hx hb dX12_given_86 rfl (lv_at hl 1 rfl) ?_
      refine lv_iconst (v := 0) hx hb dX12_given_87 (by decide) ?_
      refine lv_iload_n hx hb dX12_given_88 rfl (lv_at hl 0 rfl) ?_
      refine lv_iconst (v := 0) hx hb dX12_given_89 (by decide) ?_
      refine lv_iload_n hx hb dX12_given_90 rfl (lv_at hl 2 rfl) ?_
      refine lv_if_eq (tgt := 98) hx hb dX12_given_91 (by decide) (fun c_91 => ?_) (fun c_91 => ?_)
      · refine lv_iconst (v := 0) hx hb dX12_given_98 (by decide) ?_
        refine lv_lconst (v := 0) hx hb dX12_given_99 (by decide) ?_
        refine lv_lconst (v := 0) hx hb dX12_given_100 (by decide) ?_
        have hPc := hP.sub (ws' := [(g0, .inr (11, mF a 0 0 1000 0)), (a 1, .inl (cI, 24, .inl (f1))), (a 2, .inl (cI, 24, .inl (f2))), (a 3, .inl (cI, 24, .inl (f3))), (a 4, .inl (cI, 24, .inl (f4))), (a 5, .inl (cJ, 24, .inr (.inl (f5)))), (a 6, .inl (cJ, 24, .inr (.inl (f6))))]) [0, 1, 2, 3, 4, 5, 6] rfl
        have hDc := hD.sub (ws' := [(g0, .inr (11, mF a 0 0 1000 0)), (a 1, .inl (cI, 24, .inl (f1))), (a 2, .inl (cI, 24, .inl (f2))), (a 3, .inl (cI, 24, .inl (f3))), (a 4, .inl (cI, 24, .inl (f4))), (a 5, .inl (cJ, 24, .inr (.inl (f5)))), (a 6, .inl (cJ, 24, .inr (.inl (f6))))]) [0, 1, 2, 3, 4, 5, 6] (by decide) rfl
        have hKc := hK.sub (tys' := [(cI, .int), (cJ, .long)]) [0, 1] rfl
        have hFc := va_free (wc := [(g0, .inr (11, mF a 0 0 1000 0)), (a 1, .inl (cI, 24, .inl (f1))), (a 2, .inl (cI, 24, .inl (f2))), (a 3, .inl (cI, 24, .inl (f3))), (a 4, .inl (cI, 24, .inl (f4))), (a 5, .inl (cJ, 24, .inr (.inl (f5)))), (a 6, .inl (cJ, 24, .inr (.inl (f6))))]) hD hS hA [0, 1, 2, 3, 4, 5, 6] rfl
        refine va_calli (va_runV (As := [.int 0, .int 0, .int 0, .int 0, .long 0, .long 0]) (rest := []) ⟨hx, hb, hml, hown, hts⟩ (c_X12_made l dC dI a g0 cI cJ f1 f2 f3 f4 f5 f6 0 1000 0 0 0 0 0 0 0 H.size) (cwV 6 hts gX12_given_X12_made rfl rfl rfl (by decide +kernel) ⟨Nat.le_of_ble_eq_true rfl, Nat.le_of_ble_eq_true rfl⟩) ⟨fun a U g mk q => by obtain ⟨q0, q1, qP, qK, qD⟩ := q; exact ⟨q0, q1, qP, va_K.moved (u := U) (U := U.calling g mk a) (Vm.Alike.refl U.vm) qK, qD⟩, va_recv hKc hPc (ci := 11) (q0 := 0) rfl rfl, fun U hU hW => ⟨rfl, by rw [hU], by rw [hU]; exact hPc, va_K.moved hW.alike hKc, hDc.weaken (fun _ _ _ _ => trivial)⟩⟩ rfl rfl hl.1 rfl (lv_room (Nat.le_of_ble_eq_true rfl)) dX12_given_101 ⟨Nat.le_of_ble_eq_true rfl, Nat.le_of_ble_eq_true rfl⟩) hS (fun q _ h => hFc q h) hFc (fun r_1 u_2 t H1 locs ht hvm hw hB hz1 hk1 hS => ?_)
        obtain ⟨hP1, hK1, hD1⟩ := hB
        rw [ht] at hP1
        have hK1 := va_K.moved hvm.symm hK1
        have hK := hK.app hK1
        obtain ⟨hP, hD⟩ := va_join (wr := []) (w1 := [(g0, .inr (11, mF a 1 0 1000 0))]) hP hD [0, 1, 2, 3, 4, 5, 6] [] rfl rfl (by decide) (by decide) hk1 hFc hP1 hD1
        generalize H1 = H at hP hS ⊢
        have hP : va_P (dC, dI) vwCl [(g0, .inr (11, mF a 1 0 1000 0))] H := hP
        have hD : va_D A [(g0, .inr (11, mF a 1 0 1000 0))] := hD
        have hK : va_K (dC, dI) vwCl [(cI, .int), (cJ, .long)] s := hK
        refine W.widen (k := 0) (n := 0) (Nat.le_of_ble_eq_true rfl) (Nat.le_of_ble_eq_true rfl) ?_
        obtain rfl : r_1 = 0 := hw
        refine W.widen (k := 0) (n := 0) (Nat.le_of_ble_eq_true rfl) (Nat.le_of_ble_eq_true rfl) ?_
        have hP9 := hP.sub (ws' := [(g0, .inr (11, mF a 1 0 1000 0))]) [0] rfl
        have hD9 := hD.sub (ws' := [(g0, .inr (11, mF a 1 0 1000 0))]) [0] (by decide) rfl
        have hK9 := hK.sub (tys' := []) [] rfl
        exact W.iret (v := 0) hx hb hr (fun t ht hW => ⟨⟨0, (1, 0, 1000, 0), rfl, ⟨rfl, fun _ => rfl⟩, by rw [ht]; exact hP9, va_K.moved hW.alike hK9, hD9⟩, hS.F ht⟩) hS.2.2 dX12_given_104
      · refine lv_iconst (v := 1) hx hb dX12_given_94 (by decide) ?_
        refine lv_goto (tgt := 99) hx hb dX12_given_95 (by decide) ?_
        refine lv_lconst (v := 0) hx hb dX12_given_99 (by decide) ?_
        refine lv_lconst (v := 0) hx hb dX12_given_100 (by decide) ?_
        have hPc := hP.sub (ws' := [(g0, .inr (11, mF a 0 0 1000 0)), (a 1, .inl (cI, 24, .inl (f1))), (a 2, .inl (cI, 24, .inl (f2))), (a 3, .inl (cI, 24, .inl (f3))), (a 4, .inl (cI, 24, .inl (f4))), (a 5, .inl (cJ, 24, .inr (.inl (f5)))), (a 6, .inl (cJ, 24, .inr (.inl (f6))))]) [0, 1, 2, 3, 4, 5, 6] rfl
        have hDc := hD.sub (ws' := [(g0, .inr (11, mF a 0 0 1000 0)), (a 1, .inl (cI, 24, .inl (f1))), (a 2, .inl (cI, 24, .inl (f2))), (a 3, .inl (cI, 24, .inl (f3))), (a 4, .inl (cI, 24, .inl (f4))), (a 5, .inl (cJ, 24, .inr (.inl (f5)))), (a 6, .inl (cJ, 24, .inr (.inl (f6))))]) [0, 1, 2, 3, 4, 5, 6] (by decide) rfl
        have hKc := hK.sub (tys' := [(cI, .int), (cJ, .long)]) [0, 1] rfl
        have hFc := va_free (wc := [(g0, .inr (11, mF a 0 0 1000 0)), (a 1, .inl (cI, 24, .inl (f1))), (a 2, .inl (cI, 24, .inl (f2))), (a 3, .inl (cI, 24, .inl (f3))), (a 4, .inl (cI, 24, .inl (f4))), (a 5, .inl (cJ, 24, .inr (.inl (f5)))), (a 6, .inl (cJ, 24, .inr (.inl (f6))))]) hD hS hA [0, 1, 2, 3, 4, 5, 6] rfl
        refine va_calli (va_runV (As := [.int 0, .int 0, .int 0, .int 1, .long 0, .long 0]) (rest := []) ⟨hx, hb, hml, hown, hts⟩ (c_X12_made l dC dI a g0 cI cJ f1 f2 f3 f4 f5 f6 0 1000 0 0 0 0 1 0 0 H.size) (cwV 6 hts gX12_given_X12_made rfl rfl rfl (by decide +kernel) ⟨Nat.le_of_ble_eq_true rfl, Nat.le_of_ble_eq_true rfl⟩) ⟨fun a U g mk q => by obtain ⟨q0, q1, qP, qK, qD⟩ := q; exact ⟨q0, q1, qP, va_K.moved (u := U) (U := U.calling g mk a) (Vm.Alike.refl U.vm) qK, qD⟩, va_recv hKc hPc (ci := 11) (q0 := 0) rfl rfl, fun U hU hW => ⟨rfl, by rw [hU], by rw [hU]; exact hPc, va_K.moved hW.alike hKc, hDc.weaken (fun _ _ _ _ => trivial)⟩⟩ rfl rfl hl.1 rfl (lv_room (Nat.le_of_ble_eq_true rfl)) dX12_given_101 ⟨Nat.le_of_ble_eq_true rfl, Nat.le_of_ble_eq_true rfl⟩) hS (fun q _ h => hFc q h) hFc (fun r_3 u_4 t H1 locs ht hvm hw hB hz1 hk1 hS => ?_)
        obtain ⟨hP1, hK1, hD1⟩ := hB
        rw [ht] at hP1
        have hK1 := va_K.moved hvm.symm hK1
        have hK := hK.app hK1
        obtain ⟨hP, hD⟩ := va_join (wr := []) (w1 := [(g0, .inr (11, mF a 1 0 1000 0))]) hP hD [0, 1, 2, 3, 4, 5, 6] [] rfl rfl (by decide) (by decide) hk1 hFc hP1 hD1
        generalize H1 = H at hP hS ⊢
        have hP : va_P (dC, dI) vwCl [(g0, .inr (11, mF a 1 0 1000 0))] H := hP
        have hD : va_D A [(g0, .inr (11, mF a 1 0 1000 0))] := hD
        have hK : va_K (dC, dI) vwCl [(cI, .int), (cJ, .long)] s := hK
        refine W.widen (k := 0) (n := 0) (Nat.le_of_ble_eq_true rfl) (Nat.le_of_ble_eq_true rfl) ?_
        obtain rfl : r_3 = 0 := hw
        refine W.widen (k := 0) (n := 0) (Nat.le_of_ble_eq_true rfl) (Nat.le_of_ble_eq_true rfl) ?_
        have hP9 := hP.sub (ws' := [(g0, .inr (11, mF a 1 0 1000 0))]) [0] rfl
        have hD9 := hD.sub (ws' := [(g0, .inr (11, mF a 1 0 1000 0))]) [0] (by decide) rfl
        have hK9 := hK.sub (tys' := []) [] rfl
        exact W.iret (v := 0) hx hb hr (fun t ht hW => ⟨⟨0, (1, 0, 1000, 0), rfl, ⟨rfl, fun _ => rfl⟩, by rw [ht]; exact hP9, va_K.moved hW.alike hK9, hD9⟩, hS.F ht⟩) hS.2.2 dX12_given_104
    · exact absurd c_27 (by decide)
  · exact absurd c_11 (by decide)
set_option maxHeartbeats 4000000 in
set_option maxRecDepth 100000 in
theorem c_X12_count (l : Launch) (dC : Nat → ClassId) (dI : Nat → Nat → Nat) (a : Nat → Nat) (g0 : Nat) (cI : ClassId) (cJ : ClassId) (f1 : Nat → Int32) (f2 : Nat → Int32) (f3 : Nat → Int32) (f4 : Nat → Int32) (f5 : Nat → Int64) (f6 : Nat → Int64) (p0 : Int64) (p1 : Int64) (sz : Nat) : Met l yX12_count wsX12_count ({ frames := 20, cells := 0, slots := 0, locals := 600 }) (va_Pc [.ref g0, .long p0, .long p1] (fun U => U.heap.size = sz ∧ va_P (dC, dI) vwCl [(g0, .inr (11, mF a 0 0 1000 0)), (a 1, .inl (cI, 24, .inl (f1))), (a 2, .inl (cI, 24, .inl (f2))), (a 3, .inl (cI, 24, .inl (f3))), (a 4, .inl (cI, 24, .inl (f4))), (a 5, .inl (cJ, 24, .inr (.inl (f5)))), (a 6, .inl (cJ, 24, .inr (.inl (f6))))] U.heap ∧ va_K (dC, dI) vwCl [(cI, .int), (cJ, .long)] U ∧ va_D (fun _ => True) [(g0, .inr (11, mF a 0 0 1000 0)), (a 1, .inl (cI, 24, .inl (f1))), (a 2, .inl (cI, 24, .inl (f2))), (a 3, .inl (cI, 24, .inl (f3))), (a 4, .inl (cI, 24, .inl (f4))), (a 5, .inl (cJ, 24, .inr (.inl (f5)))), (a 6, .inl (cJ, 24, .inr (.inl (f6))))])) (va_Qi (fun (r : Int32) (u : Int32 × Int32 × Int32 × Int32) => u.2.2.2 = 0 ∧ (0 = 0 → r = 0)) (fun (u : Int32 × Int32 × Int32 × Int32) (t : State) => va_P (dC, dI) vwCl [(g0, .inr (11, mF a u.1 u.2.1 u.2.2.1 u.2.2.2))] t.heap ∧ va_K (dC, dI) vwCl [] t ∧ va_D (va_A [(g0, .inr (11, mF a 0 0 1000 0)), (a 1, .inl (cI, 24, .inl (f1))), (a 2, .inl (cI, 24, .inl (f2))), (a 3, .inl (cI, 24, .inl (f3))), (a 4, .inl (cI, 24, .inl (f4))), (a 5, .inl (cJ, 24, .inr (.inl (f5)))), (a 6, .inl (cJ, 24, .inr (.inl (f6))))] sz) [(g0, .inr (11, mF a u.1 u.2.1 u.2.2.1 u.2.2.2))]) (va_A [(g0, .inr (11, mF a 0 0 1000 0)), (a 1, .inl (cI, 24, .inl (f1))), (a 2, .inl (cI, 24, .inl (f2))), (a 3, .inl (cI, 24, .inl (f3))), (a 4, .inl (cI, 24, .inl (f4))), (a 5, .inl (cJ, 24, .inr (.inl (f5)))), (a 6, .inl (cJ, 24, .inr (.inl (f6))))] sz)) 0 0 (va_A [(g0, .inr (11, mF a 0 0 1000 0)), (a 1, .inl (cI, 24, .inl (f1))), (a 2, .inl (cI, 24, .inl (f2))), (a 3, .inl (cI, 24, .inl (f3))), (a 4, .inl (cI, 24, .inl (f4))), (a 5, .inl (cJ, 24, .inr (.inl (f5)))), (a 6, .inl (cJ, 24, .inr (.inl (f6))))] sz) := by
  refine Met.ofW (cc := cX12_count) (maxL := 5) (ret := (some .int)) (by decide) rfl ?_
  intro p e s m args below meth c s₁ B hml hv
  obtain ⟨rfl, hsz, hP, hK, hD0⟩ := hv
  have hx := B.exec
  have hb := B.bytes
  have hr := B.returns
  have hts := atoms_spec (ws := wsX12_count) B.pre
  have hown : s.vm.findClass RX12 = some m.cls := findClass_of_methodNamed B.named
  have hlocks := B.notSynchronized
  subst hsz
  have hD := hD0.self (sz := s.heap.size)
  generalize hAe : va_A [(g0, .inr (11, mF a 0 0 1000 0)), (a 1, .inl (cI, 24, .inl (f1))), (a 2, .inl (cI, 24, .inl (f2))), (a 3, .inl (cI, 24, .inl (f3))), (a 4, .inl (cI, 24, .inl (f4))), (a 5, .inl (cJ, 24, .inr (.inl (f5)))), (a 6, .inl (cJ, 24, .inr (.inl (f6))))] s.heap.size = A at hD ⊢
  have hA : ∀ q : Nat, s.heap.size ≤ q → A q := fun q h => by rw [← hAe]; exact Or.inr h
  generalize hH : s.heap = H at hP ⊢
  have hS : va_S A s.heap H [] := by rw [← hH]; exact va_S.rf
  have hl := lv_entry [.ref g0, .long p0, .long p1] (n := 5) (Nat.le_of_ble_eq_true rfl)
  rw [lg_entry_eq]
  generalize (lg_sl [.ref g0, .long p0, .long p1] ++ List.replicate (5 - (lg_sl [.ref g0, .long p0, .long p1]).length) Slot.unset).toArray = ls at hl ⊢
  have hl : lv_has ls 5 [(0, .ref g0), (1, .long p0), (3, .long p1)] := hl
  have hP : va_P (dC, dI) vwCl [(g0, .inr (11, mF a 0 0 1000 0)), (a 1, .inl (cI, 24, .inl (f1))), (a 2, .inl (cI, 24, .inl (f2))), (a 3, .inl (cI, 24, .inl (f3))), (a 4, .inl (cI, 24, .inl (f4))), (a 5, .inl (cJ, 24, .inr (.inl (f5)))), (a 6, .inl (cJ, 24, .inr (.inl (f6))))] H := hP
  refine lv_aload_n hx hb dX12_count_0 rfl (lv_at hl 0 rfl) ?_
  refine lv_iconst (v := 0) hx hb dX12_count_1 (by decide) ?_
  refine va_put (D := (dC, dI)) (ci := 11) (v := .int 0) (ty := .int) (C := RX12) (T := TX12) (N := 32) hx hb hts (by decide +kernel) tyX12 tyX12_ok nmX12 hown hK hP hD hS 0 rfl rfl 19 (by decide) (hts (.fieldLink RX12 63 "NeededListsModel" "thrown" "I") (by decide +kernel)) (fun _ h9 => h9) rfl (by decide +kernel) rfl rfl (Nat.le_of_ble_eq_true rfl) dX12_count_2 (fun H locs hP hD hS => ?_)
  have hP : va_P (dC, dI) vwCl [(g0, .inr (11, mF a 0 0 1000 0)), (a 1, .inl (cI, 24, .inl (f1))), (a 2, .inl (cI, 24, .inl (f2))), (a 3, .inl (cI, 24, .inl (f3))), (a 4, .inl (cI, 24, .inl (f4))), (a 5, .inl (cJ, 24, .inr (.inl (f5)))), (a 6, .inl (cJ, 24, .inr (.inl (f6))))] H := hP
  have hD : va_D A [(g0, .inr (11, mF a 0 0 1000 0)), (a 1, .inl (cI, 24, .inl (f1))), (a 2, .inl (cI, 24, .inl (f2))), (a 3, .inl (cI, 24, .inl (f3))), (a 4, .inl (cI, 24, .inl (f4))), (a 5, .inl (cJ, 24, .inr (.inl (f5)))), (a 6, .inl (cJ, 24, .inr (.inl (f6))))] := hD
  refine lv_aload_n hx hb dX12_count_5 rfl (lv_at hl 0 rfl) ?_
  refine va_get (D := (dC, dI)) (ci := 11) (v := .int 0) (C := RX12) (T := TX12) (N := 32) hx hb hts (by decide +kernel) hown hK hP 0 rfl rfl 0 (by decide) (hts (.fieldLink RX12 66 "NeededListsModel" "lists" "I") (by decide +kernel)) (fun _ h9 => h9) rfl dX12_count_6 ?_
  refine lv_bipush (v := 24) hx hb dX12_count_9 (by decide) ?_
  refine lv_icmp_ne (tgt := 22) hx hb dX12_count_11 (by decide) (fun c_11 => ?_) (fun c_11 => ?_)
  · refine lv_aload_n hx hb dX12_count_22 rfl (lv_at hl 0 rfl) ?_
    refine lv_iconst (v := 1) hx hb dX12_count_23 (by decide) ?_
    refine lv_iconst (v := 0) hx hb dX12_count_24 (by decide) ?_
    refine lv_iconst (v := 0) hx hb dX12_count_25 (by decide) ?_
    refine lv_iconst (v := 0) hx hb dX12_count_26 (by decide) ?_
    refine lv_lload_n hx hb dX12_count_27 rfl (lv_at hl 1 rfl) ?_
    refine lv_lload_n hx hb dX12_count_28 rfl (lv_at hl 2 rfl) ?_
    have hPc := hP.sub (ws' := [(g0, .inr (11, mF a 0 0 1000 0)), (a 1, .inl (cI, 24, .inl (f1))), (a 2, .inl (cI, 24, .inl (f2))), (a 3, .inl (cI, 24, .inl (f3))), (a 4, .inl (cI, 24, .inl (f4))), (a 5, .inl (cJ, 24, .inr (.inl (f5)))), (a 6, .inl (cJ, 24, .inr (.inl (f6))))]) [0, 1, 2, 3, 4, 5, 6] rfl
    have hDc := hD.sub (ws' := [(g0, .inr (11, mF a 0 0 1000 0)), (a 1, .inl (cI, 24, .inl (f1))), (a 2, .inl (cI, 24, .inl (f2))), (a 3, .inl (cI, 24, .inl (f3))), (a 4, .inl (cI, 24, .inl (f4))), (a 5, .inl (cJ, 24, .inr (.inl (f5)))), (a 6, .inl (cJ, 24, .inr (.inl (f6))))]) [0, 1, 2, 3, 4, 5, 6] (by decide) rfl
    have hKc := hK.sub (tys' := [(cI, .int), (cJ, .long)]) [0, 1] rfl
    have hFc := va_free (wc := [(g0, .inr (11, mF a 0 0 1000 0)), (a 1, .inl (cI, 24, .inl (f1))), (a 2, .inl (cI, 24, .inl (f2))), (a 3, .inl (cI, 24, .inl (f3))), (a 4, .inl (cI, 24, .inl (f4))), (a 5, .inl (cJ, 24, .inr (.inl (f5)))), (a 6, .inl (cJ, 24, .inr (.inl (f6))))]) hD hS hA [0, 1, 2, 3, 4, 5, 6] rfl
    refine va_calli (va_runV (As := [.int 1, .int 0, .int 0, .int 0, .long p0, .long p1]) (rest := []) ⟨hx, hb, hml, hown, hts⟩ (c_X12_made l dC dI a g0 cI cJ f1 f2 f3 f4 f5 f6 0 1000 0 1 0 0 0 p0 p1 H.size) (cwV 6 hts gX12_count_X12_made rfl rfl rfl (by decide +kernel) ⟨Nat.le_of_ble_eq_true rfl, Nat.le_of_ble_eq_true rfl⟩) ⟨fun a U g mk q => by obtain ⟨q0, q1, qP, qK, qD⟩ := q; exact ⟨q0, q1, qP, va_K.moved (u := U) (U := U.calling g mk a) (Vm.Alike.refl U.vm) qK, qD⟩, va_recv hKc hPc (ci := 11) (q0 := 0) rfl rfl, fun U hU hW => ⟨rfl, by rw [hU], by rw [hU]; exact hPc, va_K.moved hW.alike hKc, hDc.weaken (fun _ _ _ _ => trivial)⟩⟩ rfl rfl hl.1 rfl (lv_room (Nat.le_of_ble_eq_true rfl)) dX12_count_29 ⟨Nat.le_of_ble_eq_true rfl, Nat.le_of_ble_eq_true rfl⟩) hS (fun q _ h => hFc q h) hFc (fun r_1 u_2 t H1 locs ht hvm hw hB hz1 hk1 hS => ?_)
    obtain ⟨hP1, hK1, hD1⟩ := hB
    rw [ht] at hP1
    have hK1 := va_K.moved hvm.symm hK1
    have hK := hK.app hK1
    obtain ⟨hP, hD⟩ := va_join (wr := []) (w1 := [(g0, .inr (11, mF a 1 0 1000 0))]) hP hD [0, 1, 2, 3, 4, 5, 6] [] rfl rfl (by decide) (by decide) hk1 hFc hP1 hD1
    generalize H1 = H at hP hS ⊢
    have hP : va_P (dC, dI) vwCl [(g0, .inr (11, mF a 1 0 1000 0))] H := hP
    have hD : va_D A [(g0, .inr (11, mF a 1 0 1000 0))] := hD
    have hK : va_K (dC, dI) vwCl [(cI, .int), (cJ, .long)] s := hK
    refine W.widen (k := 0) (n := 0) (Nat.le_of_ble_eq_true rfl) (Nat.le_of_ble_eq_true rfl) ?_
    obtain rfl : r_1 = 0 := hw
    refine W.widen (k := 0) (n := 0) (Nat.le_of_ble_eq_true rfl) (Nat.le_of_ble_eq_true rfl) ?_
    have hP9 := hP.sub (ws' := [(g0, .inr (11, mF a 1 0 1000 0))]) [0] rfl
    have hD9 := hD.sub (ws' := [(g0, .inr (11, mF a 1 0 1000 0))]) [0] (by decide) rfl
    have hK9 := hK.sub (tys' := []) [] rfl
    exact W.iret (v := 0) hx hb hr (fun t ht hW => ⟨⟨0, (1, 0, 1000, 0), rfl, ⟨rfl, fun _ => rfl⟩, by rw [ht]; exact hP9, va_K.moved hW.alike hK9, hD9⟩, hS.F ht⟩) hS.2.2 dX12_count_32
  · exact absurd c_11 (by decide)
set_option maxHeartbeats 4000000 in
set_option maxRecDepth 100000 in
theorem c_X12_iterate (l : Launch) (dC : Nat → ClassId) (dI : Nat → Nat → Nat) (a : Nat → Nat) (g0 : Nat) (cI : ClassId) (cJ : ClassId) (f1 : Nat → Int32) (f2 : Nat → Int32) (f3 : Nat → Int32) (f4 : Nat → Int32) (f5 : Nat → Int64) (f6 : Nat → Int64) (p0 : Int32) (p1 : Int64) (p2 : Int64) (sz : Nat) : Met l yX12_iterate wsX12_iterate ({ frames := 20, cells := 0, slots := 0, locals := 600 }) (va_Pc [.ref g0, .int p0, .long p1, .long p2] (fun U => U.heap.size = sz ∧ va_P (dC, dI) vwCl [(g0, .inr (11, mF a 0 0 1000 0)), (a 1, .inl (cI, 24, .inl (f1))), (a 2, .inl (cI, 24, .inl (f2))), (a 3, .inl (cI, 24, .inl (f3))), (a 4, .inl (cI, 24, .inl (f4))), (a 5, .inl (cJ, 24, .inr (.inl (f5)))), (a 6, .inl (cJ, 24, .inr (.inl (f6))))] U.heap ∧ va_K (dC, dI) vwCl [(cI, .int), (cJ, .long)] U ∧ va_D (fun _ => True) [(g0, .inr (11, mF a 0 0 1000 0)), (a 1, .inl (cI, 24, .inl (f1))), (a 2, .inl (cI, 24, .inl (f2))), (a 3, .inl (cI, 24, .inl (f3))), (a 4, .inl (cI, 24, .inl (f4))), (a 5, .inl (cJ, 24, .inr (.inl (f5)))), (a 6, .inl (cJ, 24, .inr (.inl (f6))))])) (va_Qi (fun (r : Int32) (u : Int32 × Int32 × Int32 × Int32) => u.2.2.2 = kOp p0 ∧ (kOp p0 = 0 → r = 0)) (fun (u : Int32 × Int32 × Int32 × Int32) (t : State) => va_P (dC, dI) vwCl [(g0, .inr (11, mF a u.1 u.2.1 u.2.2.1 u.2.2.2))] t.heap ∧ va_K (dC, dI) vwCl [] t ∧ va_D (va_A [(g0, .inr (11, mF a 0 0 1000 0)), (a 1, .inl (cI, 24, .inl (f1))), (a 2, .inl (cI, 24, .inl (f2))), (a 3, .inl (cI, 24, .inl (f3))), (a 4, .inl (cI, 24, .inl (f4))), (a 5, .inl (cJ, 24, .inr (.inl (f5)))), (a 6, .inl (cJ, 24, .inr (.inl (f6))))] sz) [(g0, .inr (11, mF a u.1 u.2.1 u.2.2.1 u.2.2.2))]) (va_A [(g0, .inr (11, mF a 0 0 1000 0)), (a 1, .inl (cI, 24, .inl (f1))), (a 2, .inl (cI, 24, .inl (f2))), (a 3, .inl (cI, 24, .inl (f3))), (a 4, .inl (cI, 24, .inl (f4))), (a 5, .inl (cJ, 24, .inr (.inl (f5)))), (a 6, .inl (cJ, 24, .inr (.inl (f6))))] sz)) 0 0 (va_A [(g0, .inr (11, mF a 0 0 1000 0)), (a 1, .inl (cI, 24, .inl (f1))), (a 2, .inl (cI, 24, .inl (f2))), (a 3, .inl (cI, 24, .inl (f3))), (a 4, .inl (cI, 24, .inl (f4))), (a 5, .inl (cJ, 24, .inr (.inl (f5)))), (a 6, .inl (cJ, 24, .inr (.inl (f6))))] sz) := by
  refine Met.ofW (cc := cX12_iterate) (maxL := 6) (ret := (some .int)) (by decide) rfl ?_
  intro p e s m args below meth c s₁ B hml hv
  obtain ⟨rfl, hsz, hP, hK, hD0⟩ := hv
  have hx := B.exec
  have hb := B.bytes
  have hr := B.returns
  have hts := atoms_spec (ws := wsX12_iterate) B.pre
  have hown : s.vm.findClass RX12 = some m.cls := findClass_of_methodNamed B.named
  have hlocks := B.notSynchronized
  subst hsz
  have hD := hD0.self (sz := s.heap.size)
  generalize hAe : va_A [(g0, .inr (11, mF a 0 0 1000 0)), (a 1, .inl (cI, 24, .inl (f1))), (a 2, .inl (cI, 24, .inl (f2))), (a 3, .inl (cI, 24, .inl (f3))), (a 4, .inl (cI, 24, .inl (f4))), (a 5, .inl (cJ, 24, .inr (.inl (f5)))), (a 6, .inl (cJ, 24, .inr (.inl (f6))))] s.heap.size = A at hD ⊢
  have hA : ∀ q : Nat, s.heap.size ≤ q → A q := fun q h => by rw [← hAe]; exact Or.inr h
  generalize hH : s.heap = H at hP ⊢
  have hS : va_S A s.heap H [] := by rw [← hH]; exact va_S.rf
  have hl := lv_entry [.ref g0, .int p0, .long p1, .long p2] (n := 6) (Nat.le_of_ble_eq_true rfl)
  rw [lg_entry_eq]
  generalize (lg_sl [.ref g0, .int p0, .long p1, .long p2] ++ List.replicate (6 - (lg_sl [.ref g0, .int p0, .long p1, .long p2]).length) Slot.unset).toArray = ls at hl ⊢
  have hl : lv_has ls 6 [(0, .ref g0), (1, .int p0), (2, .long p1), (4, .long p2)] := hl
  have hP : va_P (dC, dI) vwCl [(g0, .inr (11, mF a 0 0 1000 0)), (a 1, .inl (cI, 24, .inl (f1))), (a 2, .inl (cI, 24, .inl (f2))), (a 3, .inl (cI, 24, .inl (f3))), (a 4, .inl (cI, 24, .inl (f4))), (a 5, .inl (cJ, 24, .inr (.inl (f5)))), (a 6, .inl (cJ, 24, .inr (.inl (f6))))] H := hP
  refine lv_aload_n hx hb dX12_iterate_0 rfl (lv_at hl 0 rfl) ?_
  refine lv_iconst (v := 0) hx hb dX12_iterate_1 (by decide) ?_
  refine va_put (D := (dC, dI)) (ci := 11) (v := .int 0) (ty := .int) (C := RX12) (T := TX12) (N := 32) hx hb hts (by decide +kernel) tyX12 tyX12_ok nmX12 hown hK hP hD hS 0 rfl rfl 19 (by decide) (hts (.fieldLink RX12 63 "NeededListsModel" "thrown" "I") (by decide +kernel)) (fun _ h9 => h9) rfl (by decide +kernel) rfl rfl (Nat.le_of_ble_eq_true rfl) dX12_iterate_2 (fun H locs hP hD hS => ?_)
  have hP : va_P (dC, dI) vwCl [(g0, .inr (11, mF a 0 0 1000 0)), (a 1, .inl (cI, 24, .inl (f1))), (a 2, .inl (cI, 24, .inl (f2))), (a 3, .inl (cI, 24, .inl (f3))), (a 4, .inl (cI, 24, .inl (f4))), (a 5, .inl (cJ, 24, .inr (.inl (f5)))), (a 6, .inl (cJ, 24, .inr (.inl (f6))))] H := hP
  have hD : va_D A [(g0, .inr (11, mF a 0 0 1000 0)), (a 1, .inl (cI, 24, .inl (f1))), (a 2, .inl (cI, 24, .inl (f2))), (a 3, .inl (cI, 24, .inl (f3))), (a 4, .inl (cI, 24, .inl (f4))), (a 5, .inl (cJ, 24, .inr (.inl (f5)))), (a 6, .inl (cJ, 24, .inr (.inl (f6))))] := hD
  refine lv_iload_n hx hb dX12_iterate_5 rfl (lv_at hl 1 rfl) ?_
  have hPc := hP.sub (ws' := []) [] rfl
  have hDc : va_D (fun _ => True) ([] : va_W) := nd_0
  have hKc := hK.sub (tys' := []) [] rfl
  have hFc := va_free (wc := []) hD hS hA [] rfl
  refine va_calli (va_runS (As := [.int p0]) (rest := []) ⟨hx, hb, hml, hown, hts⟩ (c_X12_isOp l dC dI p0 H.size) (va_cwS 1 hts gX12_iterate_X12_isOp rfl rfl rfl (by decide +kernel) ⟨Nat.le_of_ble_eq_true rfl, Nat.le_of_ble_eq_true rfl⟩) ⟨fun a U g mk q => by obtain ⟨q0, q1, qP, qK, qD⟩ := q; exact ⟨q0, q1, qP, va_K.moved (u := U) (U := U.calling g mk a) (Vm.Alike.refl U.vm) qK, qD⟩, fun U hU hW => ⟨rfl, by rw [hU], by rw [hU]; exact hPc, va_K.moved hW.alike hKc, hDc.weaken (fun _ _ _ _ => trivial)⟩⟩ rfl rfl hl.1 rfl (lv_room (Nat.le_of_ble_eq_true rfl)) dX12_iterate_6 ⟨Nat.le_of_ble_eq_true rfl, Nat.le_of_ble_eq_true rfl⟩) hS (fun q _ h => hFc q h) hFc (fun r_1 u_2 t H1 locs ht hvm hw hB hz1 hk1 hS => ?_)
  have hP := nd_keep hP hk1
  generalize H1 = H at hP hS ⊢
  have hP : va_P (dC, dI) vwCl [(g0, .inr (11, mF a 0 0 1000 0)), (a 1, .inl (cI, 24, .inl (f1))), (a 2, .inl (cI, 24, .inl (f2))), (a 3, .inl (cI, 24, .inl (f3))), (a 4, .inl (cI, 24, .inl (f4))), (a 5, .inl (cJ, 24, .inr (.inl (f5)))), (a 6, .inl (cJ, 24, .inr (.inl (f6))))] H := hP
  have hD : va_D A [(g0, .inr (11, mF a 0 0 1000 0)), (a 1, .inl (cI, 24, .inl (f1))), (a 2, .inl (cI, 24, .inl (f2))), (a 3, .inl (cI, 24, .inl (f3))), (a 4, .inl (cI, 24, .inl (f4))), (a 5, .inl (cJ, 24, .inr (.inl (f5)))), (a 6, .inl (cJ, 24, .inr (.inl (f6))))] := hD
  refine W.widen (k := 0) (n := 0) (Nat.le_of_ble_eq_true rfl) (Nat.le_of_ble_eq_true rfl) ?_
  obtain rfl : r_1 = bOp p0 := hw
  refine lv_if_ne (tgt := 18) hx hb dX12_iterate_9 (by decide) (fun c_9 => ?_) (fun c_9 => ?_)
  · refine lv_aload_n hx hb dX12_iterate_18 rfl (lv_at hl 0 rfl) ?_
    refine va_get (D := (dC, dI)) (ci := 11) (v := .int 0) (C := RX12) (T := TX12) (N := 32) hx hb hts (by decide +kernel) hown hK hP 0 rfl rfl 0 (by decide) (hts (.fieldLink RX12 66 "NeededListsModel" "lists" "I") (by decide +kernel)) (fun _ h9 => h9) rfl dX12_iterate_19 ?_
    refine lv_bipush (v := 24) hx hb dX12_iterate_22 (by decide) ?_
    refine lv_icmp_ne (tgt := 35) hx hb dX12_iterate_24 (by decide) (fun c_24 => ?_) (fun c_24 => ?_)
    · refine lv_aload_n hx hb dX12_iterate_35 rfl (lv_at hl 0 rfl) ?_
      refine lv_iconst (v := 2) hx hb dX12_iterate_36 (by decide) ?_
      refine lv_iconst (v := 0) hx hb dX12_iterate_37 (by decide) ?_
      refine lv_iconst (v := 0) hx hb dX12_iterate_38 (by decide) ?_
      refine lv_iload_n hx hb dX12_iterate_39 rfl (lv_at hl 1 rfl) ?_
      refine lv_lload_n hx hb dX12_iterate_40 rfl (lv_at hl 2 rfl) ?_
      refine lv_lload hx hb dX12_iterate_41 (lv_at hl 3 rfl) ?_
      have hPc := hP.sub (ws' := [(g0, .inr (11, mF a 0 0 1000 0)), (a 1, .inl (cI, 24, .inl (f1))), (a 2, .inl (cI, 24, .inl (f2))), (a 3, .inl (cI, 24, .inl (f3))), (a 4, .inl (cI, 24, .inl (f4))), (a 5, .inl (cJ, 24, .inr (.inl (f5)))), (a 6, .inl (cJ, 24, .inr (.inl (f6))))]) [0, 1, 2, 3, 4, 5, 6] rfl
      have hDc := hD.sub (ws' := [(g0, .inr (11, mF a 0 0 1000 0)), (a 1, .inl (cI, 24, .inl (f1))), (a 2, .inl (cI, 24, .inl (f2))), (a 3, .inl (cI, 24, .inl (f3))), (a 4, .inl (cI, 24, .inl (f4))), (a 5, .inl (cJ, 24, .inr (.inl (f5)))), (a 6, .inl (cJ, 24, .inr (.inl (f6))))]) [0, 1, 2, 3, 4, 5, 6] (by decide) rfl
      have hKc := hK.sub (tys' := [(cI, .int), (cJ, .long)]) [0, 1] rfl
      have hFc := va_free (wc := [(g0, .inr (11, mF a 0 0 1000 0)), (a 1, .inl (cI, 24, .inl (f1))), (a 2, .inl (cI, 24, .inl (f2))), (a 3, .inl (cI, 24, .inl (f3))), (a 4, .inl (cI, 24, .inl (f4))), (a 5, .inl (cJ, 24, .inr (.inl (f5)))), (a 6, .inl (cJ, 24, .inr (.inl (f6))))]) hD hS hA [0, 1, 2, 3, 4, 5, 6] rfl
      refine va_calli (va_runV (As := [.int 2, .int 0, .int 0, .int p0, .long p1, .long p2]) (rest := []) ⟨hx, hb, hml, hown, hts⟩ (c_X12_made l dC dI a g0 cI cJ f1 f2 f3 f4 f5 f6 0 1000 0 2 0 0 p0 p1 p2 H.size) (cwV 6 hts gX12_iterate_X12_made rfl rfl rfl (by decide +kernel) ⟨Nat.le_of_ble_eq_true rfl, Nat.le_of_ble_eq_true rfl⟩) ⟨fun a U g mk q => by obtain ⟨q0, q1, qP, qK, qD⟩ := q; exact ⟨q0, q1, qP, va_K.moved (u := U) (U := U.calling g mk a) (Vm.Alike.refl U.vm) qK, qD⟩, va_recv hKc hPc (ci := 11) (q0 := 0) rfl rfl, fun U hU hW => ⟨rfl, by rw [hU], by rw [hU]; exact hPc, va_K.moved hW.alike hKc, hDc.weaken (fun _ _ _ _ => trivial)⟩⟩ rfl rfl hl.1 rfl (lv_room (Nat.le_of_ble_eq_true rfl)) dX12_iterate_43 ⟨Nat.le_of_ble_eq_true rfl, Nat.le_of_ble_eq_true rfl⟩) hS (fun q _ h => hFc q h) hFc (fun r_3 u_4 t H1 locs ht hvm hw hB hz1 hk1 hS => ?_)
      obtain ⟨hP1, hK1, hD1⟩ := hB
      rw [ht] at hP1
      have hK1 := va_K.moved hvm.symm hK1
      have hK := hK.app hK1
      obtain ⟨hP, hD⟩ := va_join (wr := []) (w1 := [(g0, .inr (11, mF a 1 0 1000 0))]) hP hD [0, 1, 2, 3, 4, 5, 6] [] rfl rfl (by decide) (by decide) hk1 hFc hP1 hD1
      generalize H1 = H at hP hS ⊢
      have hP : va_P (dC, dI) vwCl [(g0, .inr (11, mF a 1 0 1000 0))] H := hP
      have hD : va_D A [(g0, .inr (11, mF a 1 0 1000 0))] := hD
      have hK : va_K (dC, dI) vwCl [(cI, .int), (cJ, .long)] s := hK
      refine W.widen (k := 0) (n := 0) (Nat.le_of_ble_eq_true rfl) (Nat.le_of_ble_eq_true rfl) ?_
      obtain rfl : r_3 = 0 := hw
      refine W.widen (k := 0) (n := 0) (Nat.le_of_ble_eq_true rfl) (Nat.le_of_ble_eq_true rfl) ?_
      have hP9 := hP.sub (ws' := [(g0, .inr (11, mF a 1 0 1000 0))]) [0] rfl
      have hD9 := hD.sub (ws' := [(g0, .inr (11, mF a 1 0 1000 0))]) [0] (by decide) rfl
      have hK9 := hK.sub (tys' := []) [] rfl
      exact W.iret (v := 0) hx hb hr (fun t ht hW => ⟨⟨0, (1, 0, 1000, 0), rfl, ⟨(kOp_ok c_9).symm, fun _ => rfl⟩, by rw [ht]; exact hP9, va_K.moved hW.alike hK9, hD9⟩, hS.F ht⟩) hS.2.2 dX12_iterate_46
    · exact absurd c_24 (by decide)
  · refine lv_aload_n hx hb dX12_iterate_12 rfl (lv_at hl 0 rfl) ?_
    refine lv_iconst (v := 1) hx hb dX12_iterate_13 (by decide) ?_
    have hPc := hP.sub (ws' := [(g0, .inr (11, mF a 0 0 1000 0))]) [0] rfl
    have hDc := hD.sub (ws' := [(g0, .inr (11, mF a 0 0 1000 0))]) [0] (by decide) rfl
    have hKc := hK.sub (tys' := []) [] rfl
    have hFc := va_free (wc := [(g0, .inr (11, mF a 0 0 1000 0))]) hD hS hA [0] rfl
    refine va_calli (va_runV (As := [.int 1]) (rest := []) ⟨hx, hb, hml, hown, hts⟩ (c_X12_fail l dC dI a g0 0 0 1000 0 1 H.size) (cwV 1 hts gX12_iterate_X12_fail rfl rfl rfl (by decide +kernel) ⟨Nat.le_of_ble_eq_true rfl, Nat.le_of_ble_eq_true rfl⟩) ⟨fun a U g mk q => by obtain ⟨q0, q1, qP, qK, qD⟩ := q; exact ⟨q0, q1, qP, va_K.moved (u := U) (U := U.calling g mk a) (Vm.Alike.refl U.vm) qK, qD⟩, va_recv hKc hPc (ci := 11) (q0 := 0) rfl rfl, fun U hU hW => ⟨rfl, by rw [hU], by rw [hU]; exact hPc, va_K.moved hW.alike hKc, hDc.weaken (fun _ _ _ _ => trivial)⟩⟩ rfl rfl hl.1 rfl (lv_room (Nat.le_of_ble_eq_true rfl)) dX12_iterate_14 ⟨Nat.le_of_ble_eq_true rfl, Nat.le_of_ble_eq_true rfl⟩) hS (fun q _ h => hFc q h) hFc (fun r_3 u_4 t H1 locs ht hvm hw hB hz1 hk1 hS => ?_)
    obtain ⟨hP1, hK1, hD1⟩ := hB
    rw [ht] at hP1
    have hK1 := va_K.moved hvm.symm hK1
    have hK := hK.app hK1
    obtain ⟨hP, hD⟩ := va_join (wr := [(a 1, .inl (cI, 24, .inl (f1))), (a 2, .inl (cI, 24, .inl (f2))), (a 3, .inl (cI, 24, .inl (f3))), (a 4, .inl (cI, 24, .inl (f4))), (a 5, .inl (cJ, 24, .inr (.inl (f5)))), (a 6, .inl (cJ, 24, .inr (.inl (f6))))]) (w1 := [(g0, .inr (11, mF a 0 0 1000 1))]) hP hD [0] [1, 2, 3, 4, 5, 6] rfl rfl (by decide) (by decide) hk1 hFc hP1 hD1
    generalize H1 = H at hP hS ⊢
    have hP : va_P (dC, dI) vwCl [(a 1, .inl (cI, 24, .inl (f1))), (a 2, .inl (cI, 24, .inl (f2))), (a 3, .inl (cI, 24, .inl (f3))), (a 4, .inl (cI, 24, .inl (f4))), (a 5, .inl (cJ, 24, .inr (.inl (f5)))), (a 6, .inl (cJ, 24, .inr (.inl (f6)))), (g0, .inr (11, mF a 0 0 1000 1))] H := hP
    have hD : va_D A [(a 1, .inl (cI, 24, .inl (f1))), (a 2, .inl (cI, 24, .inl (f2))), (a 3, .inl (cI, 24, .inl (f3))), (a 4, .inl (cI, 24, .inl (f4))), (a 5, .inl (cJ, 24, .inr (.inl (f5)))), (a 6, .inl (cJ, 24, .inr (.inl (f6)))), (g0, .inr (11, mF a 0 0 1000 1))] := hD
    have hK : va_K (dC, dI) vwCl [(cI, .int), (cJ, .long)] s := hK
    refine W.widen (k := 0) (n := 0) (Nat.le_of_ble_eq_true rfl) (Nat.le_of_ble_eq_true rfl) ?_
    obtain rfl : r_3 = 0 := hw
    refine W.widen (k := 0) (n := 0) (Nat.le_of_ble_eq_true rfl) (Nat.le_of_ble_eq_true rfl) ?_
    have hP9 := hP.sub (ws' := [(g0, .inr (11, mF a 0 0 1000 1))]) [6] rfl
    have hD9 := hD.sub (ws' := [(g0, .inr (11, mF a 0 0 1000 1))]) [6] (by decide) rfl
    have hK9 := hK.sub (tys' := []) [] rfl
    exact W.iret (v := 0) hx hb hr (fun t ht hW => ⟨⟨0, (0, 0, 1000, 1), rfl, ⟨(kOp_no c_9).symm, fun h => absurd ((kOp_no c_9).symm.trans h) (by decide)⟩, by rw [ht]; exact hP9, va_K.moved hW.alike hK9, hD9⟩, hS.F ht⟩) hS.2.2 dX12_iterate_17
set_option maxHeartbeats 4000000 in
set_option maxRecDepth 100000 in
theorem c_X12_steps (l : Launch) (dC : Nat → ClassId) (dI : Nat → Nat → Nat) (a : Nat → Nat) (g0 : Nat) (p0 : Int32) (sz : Nat) : Met l yX12_steps wsX12_steps ({ frames := 20, cells := 0, slots := 0, locals := 600 }) (va_Pc [.ref g0, .int p0] (fun U => U.heap.size = sz ∧ va_P (dC, dI) vwCl [(g0, .inr (11, mF a 0 0 1000 0))] U.heap ∧ va_K (dC, dI) vwCl [] U ∧ va_D (fun _ => True) [(g0, .inr (11, mF a 0 0 1000 0))])) (va_Qi (fun (r : Int32) (u : Int32 × Int32 × Int32 × Int32) => u.2.2.2 = kSteps p0 ∧ (kSteps p0 = 0 → r = 1000)) (fun (u : Int32 × Int32 × Int32 × Int32) (t : State) => va_P (dC, dI) vwCl [(g0, .inr (11, mF a u.1 u.2.1 u.2.2.1 u.2.2.2))] t.heap ∧ va_K (dC, dI) vwCl [] t ∧ va_D (va_A [(g0, .inr (11, mF a 0 0 1000 0))] sz) [(g0, .inr (11, mF a u.1 u.2.1 u.2.2.1 u.2.2.2))]) (va_A [(g0, .inr (11, mF a 0 0 1000 0))] sz)) 0 0 (va_A [(g0, .inr (11, mF a 0 0 1000 0))] sz) := by
  refine Met.ofW (cc := cX12_steps) (maxL := 3) (ret := (some .int)) (by decide) rfl ?_
  intro p e s m args below meth c s₁ B hml hv
  obtain ⟨rfl, hsz, hP, hK, hD0⟩ := hv
  have hx := B.exec
  have hb := B.bytes
  have hr := B.returns
  have hts := atoms_spec (ws := wsX12_steps) B.pre
  have hown : s.vm.findClass RX12 = some m.cls := findClass_of_methodNamed B.named
  have hlocks := B.notSynchronized
  subst hsz
  have hD := hD0.self (sz := s.heap.size)
  generalize hAe : va_A [(g0, .inr (11, mF a 0 0 1000 0))] s.heap.size = A at hD ⊢
  have hA : ∀ q : Nat, s.heap.size ≤ q → A q := fun q h => by rw [← hAe]; exact Or.inr h
  generalize hH : s.heap = H at hP ⊢
  have hS : va_S A s.heap H [] := by rw [← hH]; exact va_S.rf
  have hl := lv_entry [.ref g0, .int p0] (n := 3) (Nat.le_of_ble_eq_true rfl)
  rw [lg_entry_eq]
  generalize (lg_sl [.ref g0, .int p0] ++ List.replicate (3 - (lg_sl [.ref g0, .int p0]).length) Slot.unset).toArray = ls at hl ⊢
  have hl : lv_has ls 3 [(0, .ref g0), (1, .int p0)] := hl
  have hP : va_P (dC, dI) vwCl [(g0, .inr (11, mF a 0 0 1000 0))] H := hP
  refine lv_aload_n hx hb dX12_steps_0 rfl (lv_at hl 0 rfl) ?_
  refine lv_iconst (v := 0) hx hb dX12_steps_1 (by decide) ?_
  refine va_put (D := (dC, dI)) (ci := 11) (v := .int 0) (ty := .int) (C := RX12) (T := TX12) (N := 32) hx hb hts (by decide +kernel) tyX12 tyX12_ok nmX12 hown hK hP hD hS 0 rfl rfl 19 (by decide) (hts (.fieldLink RX12 63 "NeededListsModel" "thrown" "I") (by decide +kernel)) (fun _ h9 => h9) rfl (by decide +kernel) rfl rfl (Nat.le_of_ble_eq_true rfl) dX12_steps_2 (fun H locs hP hD hS => ?_)
  have hP : va_P (dC, dI) vwCl [(g0, .inr (11, mF a 0 0 1000 0))] H := hP
  have hD : va_D A [(g0, .inr (11, mF a 0 0 1000 0))] := hD
  refine lv_iload_n hx hb dX12_steps_5 rfl (lv_at hl 1 rfl) ?_
  refine lv_iconst (v := 1) hx hb dX12_steps_6 (by decide) ?_
  refine lv_icmp_lt (tgt := 17) hx hb dX12_steps_7 (by decide) (fun c_7 => ?_) (fun c_7 => ?_)
  · refine lv_aload_n hx hb dX12_steps_17 rfl (lv_at hl 0 rfl) ?_
    refine lv_iconst (v := 1) hx hb dX12_steps_18 (by decide) ?_
    have hPc := hP.sub (ws' := [(g0, .inr (11, mF a 0 0 1000 0))]) [0] rfl
    have hDc := hD.sub (ws' := [(g0, .inr (11, mF a 0 0 1000 0))]) [0] (by decide) rfl
    have hKc := hK.sub (tys' := []) [] rfl
    have hFc := va_free (wc := [(g0, .inr (11, mF a 0 0 1000 0))]) hD hS hA [0] rfl
    refine va_calli (va_runV (As := [.int 1]) (rest := []) ⟨hx, hb, hml, hown, hts⟩ (c_X12_fail l dC dI a g0 0 0 1000 0 1 H.size) (cwV 1 hts gX12_steps_X12_fail rfl rfl rfl (by decide +kernel) ⟨Nat.le_of_ble_eq_true rfl, Nat.le_of_ble_eq_true rfl⟩) ⟨fun a U g mk q => by obtain ⟨q0, q1, qP, qK, qD⟩ := q; exact ⟨q0, q1, qP, va_K.moved (u := U) (U := U.calling g mk a) (Vm.Alike.refl U.vm) qK, qD⟩, va_recv hKc hPc (ci := 11) (q0 := 0) rfl rfl, fun U hU hW => ⟨rfl, by rw [hU], by rw [hU]; exact hPc, va_K.moved hW.alike hKc, hDc.weaken (fun _ _ _ _ => trivial)⟩⟩ rfl rfl hl.1 rfl (lv_room (Nat.le_of_ble_eq_true rfl)) dX12_steps_19 ⟨Nat.le_of_ble_eq_true rfl, Nat.le_of_ble_eq_true rfl⟩) hS (fun q _ h => hFc q h) hFc (fun r_1 u_2 t H1 locs ht hvm hw hB hz1 hk1 hS => ?_)
    obtain ⟨hP1, hK1, hD1⟩ := hB
    rw [ht] at hP1
    have hK1 := va_K.moved hvm.symm hK1
    have hK := hK.app hK1
    obtain ⟨hP, hD⟩ := va_join (wr := []) (w1 := [(g0, .inr (11, mF a 0 0 1000 1))]) hP hD [0] [] rfl rfl (by decide) (by decide) hk1 hFc hP1 hD1
    generalize H1 = H at hP hS ⊢
    have hP : va_P (dC, dI) vwCl [(g0, .inr (11, mF a 0 0 1000 1))] H := hP
    have hD : va_D A [(g0, .inr (11, mF a 0 0 1000 1))] := hD
    have hK : va_K (dC, dI) vwCl [] s := hK
    refine W.widen (k := 0) (n := 0) (Nat.le_of_ble_eq_true rfl) (Nat.le_of_ble_eq_true rfl) ?_
    obtain rfl : r_1 = 0 := hw
    refine W.widen (k := 0) (n := 0) (Nat.le_of_ble_eq_true rfl) (Nat.le_of_ble_eq_true rfl) ?_
    have hP9 := hP.sub (ws' := [(g0, .inr (11, mF a 0 0 1000 1))]) [0] rfl
    have hD9 := hD.sub (ws' := [(g0, .inr (11, mF a 0 0 1000 1))]) [0] (by decide) rfl
    have hK9 := hK.sub (tys' := []) [] rfl
    exact W.iret (v := 0) hx hb hr (fun t ht hW => ⟨⟨0, (0, 0, 1000, 1), rfl, ⟨(if_pos c_7).symm, fun h => absurd ((if_pos c_7).symm.trans h) (by decide)⟩, by rw [ht]; exact hP9, va_K.moved hW.alike hK9, hD9⟩, hS.F ht⟩) hS.2.2 dX12_steps_22
  · refine lv_iload_n hx hb dX12_steps_10 rfl (lv_at hl 1 rfl) ?_
    refine lv_sipush (v := 5000) hx hb dX12_steps_11 (by decide) ?_
    refine lv_icmp_le (tgt := 23) hx hb dX12_steps_14 (by decide) (fun c_14 => ?_) (fun c_14 => ?_)
    · refine lv_aload_n hx hb dX12_steps_23 rfl (lv_at hl 0 rfl) ?_
      refine va_get (D := (dC, dI)) (ci := 11) (v := .int 1000) (C := RX12) (T := TX12) (N := 32) hx hb hts (by decide +kernel) hown hK hP 0 rfl rfl 15 (by decide) (hts (.fieldLink RX12 50 "NeededListsModel" "purse" "I") (by decide +kernel)) (fun _ h9 => h9) rfl dX12_steps_24 ?_
      refine lv_istore_n (lv' := [(2, .int 1000), (0, .ref g0), (1, .int p0)]) hx hb dX12_steps_27 rfl hl (by decide) rfl (fun ls hl => ?_)
      refine lv_aload_n hx hb dX12_steps_28 rfl (lv_at hl 1 rfl) ?_
      refine lv_iload_n hx hb dX12_steps_29 rfl (lv_at hl 2 rfl) ?_
      refine va_put (D := (dC, dI)) (ci := 11) (v := .int p0) (ty := .int) (C := RX12) (T := TX12) (N := 32) hx hb hts (by decide +kernel) tyX12 tyX12_ok nmX12 hown hK hP hD hS 0 rfl rfl 15 (by decide) (hts (.fieldLink RX12 50 "NeededListsModel" "purse" "I") (by decide +kernel)) (fun _ h9 => h9) rfl (by decide +kernel) rfl rfl (Nat.le_of_ble_eq_true rfl) dX12_steps_30 (fun H locs hP hD hS => ?_)
      have hP : va_P (dC, dI) vwCl [(g0, .inr (11, mF a 0 0 p0 0))] H := hP
      have hD : va_D A [(g0, .inr (11, mF a 0 0 p0 0))] := hD
      refine lv_iload_n hx hb dX12_steps_33 rfl (lv_at hl 0 rfl) ?_
      refine W.widen (k := 0) (n := 0) (Nat.le_of_ble_eq_true rfl) (Nat.le_of_ble_eq_true rfl) ?_
      have hP9 := hP.sub (ws' := [(g0, .inr (11, mF a 0 0 p0 0))]) [0] rfl
      have hD9 := hD.sub (ws' := [(g0, .inr (11, mF a 0 0 p0 0))]) [0] (by decide) rfl
      have hK9 := hK.sub (tys' := []) [] rfl
      exact W.iret (v := 1000) hx hb hr (fun t ht hW => ⟨⟨1000, (0, 0, p0, 0), rfl, ⟨((if_neg c_7).trans (if_pos c_14)).symm, fun _ => rfl⟩, by rw [ht]; exact hP9, va_K.moved hW.alike hK9, hD9⟩, hS.F ht⟩) hS.2.2 dX12_steps_34
    · refine lv_aload_n hx hb dX12_steps_17 rfl (lv_at hl 0 rfl) ?_
      refine lv_iconst (v := 1) hx hb dX12_steps_18 (by decide) ?_
      have hPc := hP.sub (ws' := [(g0, .inr (11, mF a 0 0 1000 0))]) [0] rfl
      have hDc := hD.sub (ws' := [(g0, .inr (11, mF a 0 0 1000 0))]) [0] (by decide) rfl
      have hKc := hK.sub (tys' := []) [] rfl
      have hFc := va_free (wc := [(g0, .inr (11, mF a 0 0 1000 0))]) hD hS hA [0] rfl
      refine va_calli (va_runV (As := [.int 1]) (rest := []) ⟨hx, hb, hml, hown, hts⟩ (c_X12_fail l dC dI a g0 0 0 1000 0 1 H.size) (cwV 1 hts gX12_steps_X12_fail rfl rfl rfl (by decide +kernel) ⟨Nat.le_of_ble_eq_true rfl, Nat.le_of_ble_eq_true rfl⟩) ⟨fun a U g mk q => by obtain ⟨q0, q1, qP, qK, qD⟩ := q; exact ⟨q0, q1, qP, va_K.moved (u := U) (U := U.calling g mk a) (Vm.Alike.refl U.vm) qK, qD⟩, va_recv hKc hPc (ci := 11) (q0 := 0) rfl rfl, fun U hU hW => ⟨rfl, by rw [hU], by rw [hU]; exact hPc, va_K.moved hW.alike hKc, hDc.weaken (fun _ _ _ _ => trivial)⟩⟩ rfl rfl hl.1 rfl (lv_room (Nat.le_of_ble_eq_true rfl)) dX12_steps_19 ⟨Nat.le_of_ble_eq_true rfl, Nat.le_of_ble_eq_true rfl⟩) hS (fun q _ h => hFc q h) hFc (fun r_3 u_4 t H1 locs ht hvm hw hB hz1 hk1 hS => ?_)
      obtain ⟨hP1, hK1, hD1⟩ := hB
      rw [ht] at hP1
      have hK1 := va_K.moved hvm.symm hK1
      have hK := hK.app hK1
      obtain ⟨hP, hD⟩ := va_join (wr := []) (w1 := [(g0, .inr (11, mF a 0 0 1000 1))]) hP hD [0] [] rfl rfl (by decide) (by decide) hk1 hFc hP1 hD1
      generalize H1 = H at hP hS ⊢
      have hP : va_P (dC, dI) vwCl [(g0, .inr (11, mF a 0 0 1000 1))] H := hP
      have hD : va_D A [(g0, .inr (11, mF a 0 0 1000 1))] := hD
      have hK : va_K (dC, dI) vwCl [] s := hK
      refine W.widen (k := 0) (n := 0) (Nat.le_of_ble_eq_true rfl) (Nat.le_of_ble_eq_true rfl) ?_
      obtain rfl : r_3 = 0 := hw
      refine W.widen (k := 0) (n := 0) (Nat.le_of_ble_eq_true rfl) (Nat.le_of_ble_eq_true rfl) ?_
      have hP9 := hP.sub (ws' := [(g0, .inr (11, mF a 0 0 1000 1))]) [0] rfl
      have hD9 := hD.sub (ws' := [(g0, .inr (11, mF a 0 0 1000 1))]) [0] (by decide) rfl
      have hK9 := hK.sub (tys' := []) [] rfl
      exact W.iret (v := 0) hx hb hr (fun t ht hW => ⟨⟨0, (0, 0, 1000, 1), rfl, ⟨((if_neg c_7).trans (if_neg c_14)).symm, fun h => absurd (((if_neg c_7).trans (if_neg c_14)).symm.trans h) (by decide)⟩, by rw [ht]; exact hP9, va_K.moved hW.alike hK9, hD9⟩, hS.F ht⟩) hS.2.2 dX12_steps_22
end
