section
-- ===== PART A: goes FIRST, ahead of the names: the tables' words, and 'selects' of the private methods out of them =====
/-- a private method of a class that the tables say can be made, by its rows of tables_1 -/
def lw_okq (q : MethodName × Nat) : Prop := (q.1.cls ≠ "java/lang/invoke/MethodHandle" ∧ q.1.cls ≠ "java/lang/invoke/VarHandle") ∧ Cond.instantiable q.1.cls q.2 ∈ tables_1 ∧ Cond.privateMethod q.1 ∈ tables_1 ∧ Cond.instanceMethod q.1 ∈ tables_1
theorem lw_p0 : lw_okq (⟨"MaskTouch", "tapeNumber", "(I)V"⟩, 12) := ⟨⟨by decide +kernel, by decide +kernel⟩, List.mem_of_getElem? (i := 21) (by decide +kernel), List.mem_of_getElem? (i := 318) (by decide +kernel), List.mem_of_getElem? (i := 319) (by decide +kernel)⟩
theorem lw_p1 : lw_okq (⟨"MaskTouch", "replaceBy", "(LMaskTouch$Field;)V"⟩, 12) := ⟨⟨by decide +kernel, by decide +kernel⟩, List.mem_of_getElem? (i := 21) (by decide +kernel), List.mem_of_getElem? (i := 513) (by decide +kernel), List.mem_of_getElem? (i := 514) (by decide +kernel)⟩
theorem lw_p2 : lw_okq (⟨"MaskTouch", "isBody", "(I)Z"⟩, 12) := ⟨⟨by decide +kernel, by decide +kernel⟩, List.mem_of_getElem? (i := 21) (by decide +kernel), List.mem_of_getElem? (i := 564) (by decide +kernel), List.mem_of_getElem? (i := 565) (by decide +kernel)⟩
theorem lw_p3 : lw_okq (⟨"MaskTouch", "remember", "()V"⟩, 12) := ⟨⟨by decide +kernel, by decide +kernel⟩, List.mem_of_getElem? (i := 21) (by decide +kernel), List.mem_of_getElem? (i := 571) (by decide +kernel), List.mem_of_getElem? (i := 572) (by decide +kernel)⟩
theorem lw_p4 : lw_okq (⟨"MaskTouch", "isMask", "(I)Z"⟩, 12) := ⟨⟨by decide +kernel, by decide +kernel⟩, List.mem_of_getElem? (i := 21) (by decide +kernel), List.mem_of_getElem? (i := 594) (by decide +kernel), List.mem_of_getElem? (i := 595) (by decide +kernel)⟩
theorem lw_p5 : lw_okq (⟨"MaskTouch", "actBySketch", "(I)V"⟩, 12) := ⟨⟨by decide +kernel, by decide +kernel⟩, List.mem_of_getElem? (i := 21) (by decide +kernel), List.mem_of_getElem? (i := 615) (by decide +kernel), List.mem_of_getElem? (i := 616) (by decide +kernel)⟩
theorem lw_p6 : lw_okq (⟨"MaskTouch", "stopsInTick", "(I)Z"⟩, 12) := ⟨⟨by decide +kernel, by decide +kernel⟩, List.mem_of_getElem? (i := 21) (by decide +kernel), List.mem_of_getElem? (i := 757) (by decide +kernel), List.mem_of_getElem? (i := 758) (by decide +kernel)⟩
theorem lw_p7 : lw_okq (⟨"MaskTouch", "areTwoBodies", "(II)Z"⟩, 12) := ⟨⟨by decide +kernel, by decide +kernel⟩, List.mem_of_getElem? (i := 21) (by decide +kernel), List.mem_of_getElem? (i := 898) (by decide +kernel), List.mem_of_getElem? (i := 899) (by decide +kernel)⟩
theorem lw_p8 : lw_okq (⟨"MaskTouch", "passesSieve", "(III)Z"⟩, 12) := ⟨⟨by decide +kernel, by decide +kernel⟩, List.mem_of_getElem? (i := 21) (by decide +kernel), List.mem_of_getElem? (i := 930) (by decide +kernel), List.mem_of_getElem? (i := 931) (by decide +kernel)⟩
theorem lw_p9 : lw_okq (⟨"MaskTouchModel", "puts", "(I)V"⟩, 26) := ⟨⟨by decide +kernel, by decide +kernel⟩, List.mem_of_getElem? (i := 1037) (by decide +kernel), List.mem_of_getElem? (i := 1127) (by decide +kernel), List.mem_of_getElem? (i := 1128) (by decide +kernel)⟩
theorem lw_p10 : lw_okq (⟨"MaskTouchModel", "next", "()I"⟩, 26) := ⟨⟨by decide +kernel, by decide +kernel⟩, List.mem_of_getElem? (i := 1037) (by decide +kernel), List.mem_of_getElem? (i := 1139) (by decide +kernel), List.mem_of_getElem? (i := 1140) (by decide +kernel)⟩
theorem lw_p11 : lw_okq (⟨"MaskTouchModel", "sign", "()I"⟩, 26) := ⟨⟨by decide +kernel, by decide +kernel⟩, List.mem_of_getElem? (i := 1037) (by decide +kernel), List.mem_of_getElem? (i := 1143) (by decide +kernel), List.mem_of_getElem? (i := 1144) (by decide +kernel)⟩
theorem lw_p12 : lw_okq (⟨"MaskTouchModel", "isRight", "()Z"⟩, 26) := ⟨⟨by decide +kernel, by decide +kernel⟩, List.mem_of_getElem? (i := 1037) (by decide +kernel), List.mem_of_getElem? (i := 1147) (by decide +kernel), List.mem_of_getElem? (i := 1148) (by decide +kernel)⟩
theorem lw_p13 : lw_okq (⟨"MaskTouchModel", "readsPart", "()V"⟩, 26) := ⟨⟨by decide +kernel, by decide +kernel⟩, List.mem_of_getElem? (i := 1037) (by decide +kernel), List.mem_of_getElem? (i := 1151) (by decide +kernel), List.mem_of_getElem? (i := 1152) (by decide +kernel)⟩
theorem lw_p14 : lw_okq (⟨"MaskTouchModel", "takes", "(Ljava/lang/String;)Z"⟩, 26) := ⟨⟨by decide +kernel, by decide +kernel⟩, List.mem_of_getElem? (i := 1037) (by decide +kernel), List.mem_of_getElem? (i := 1156) (by decide +kernel), List.mem_of_getElem? (i := 1157) (by decide +kernel)⟩
theorem lw_p15 : lw_okq (⟨"MaskTouchModel", "fails", "(II)V"⟩, 26) := ⟨⟨by decide +kernel, by decide +kernel⟩, List.mem_of_getElem? (i := 1037) (by decide +kernel), List.mem_of_getElem? (i := 1167) (by decide +kernel), List.mem_of_getElem? (i := 1168) (by decide +kernel)⟩
def lw_privs_1 : List (MethodName × Nat) := [(⟨"MaskTouch", "tapeNumber", "(I)V"⟩, 12), (⟨"MaskTouch", "replaceBy", "(LMaskTouch$Field;)V"⟩, 12), (⟨"MaskTouch", "isBody", "(I)Z"⟩, 12), (⟨"MaskTouch", "remember", "()V"⟩, 12), (⟨"MaskTouch", "isMask", "(I)Z"⟩, 12), (⟨"MaskTouch", "actBySketch", "(I)V"⟩, 12), (⟨"MaskTouch", "stopsInTick", "(I)Z"⟩, 12), (⟨"MaskTouch", "areTwoBodies", "(II)Z"⟩, 12), (⟨"MaskTouch", "passesSieve", "(III)Z"⟩, 12), (⟨"MaskTouchModel", "puts", "(I)V"⟩, 26), (⟨"MaskTouchModel", "next", "()I"⟩, 26), (⟨"MaskTouchModel", "sign", "()I"⟩, 26), (⟨"MaskTouchModel", "isRight", "()Z"⟩, 26), (⟨"MaskTouchModel", "readsPart", "()V"⟩, 26), (⟨"MaskTouchModel", "takes", "(Ljava/lang/String;)Z"⟩, 26), (⟨"MaskTouchModel", "fails", "(II)V"⟩, 26)]
theorem lw_r1 : ∀ q ∈ lw_privs_1, lw_okq q := List.forall_mem_cons.mpr ⟨lw_p0, List.forall_mem_cons.mpr ⟨lw_p1, List.forall_mem_cons.mpr ⟨lw_p2, List.forall_mem_cons.mpr ⟨lw_p3, List.forall_mem_cons.mpr ⟨lw_p4, List.forall_mem_cons.mpr ⟨lw_p5, List.forall_mem_cons.mpr ⟨lw_p6, List.forall_mem_cons.mpr ⟨lw_p7, List.forall_mem_cons.mpr ⟨lw_p8, List.forall_mem_cons.mpr ⟨lw_p9, List.forall_mem_cons.mpr ⟨lw_p10, List.forall_mem_cons.mpr ⟨lw_p11, List.forall_mem_cons.mpr ⟨lw_p12, List.forall_mem_cons.mpr ⟨lw_p13, List.forall_mem_cons.mpr ⟨lw_p14, List.forall_mem_cons.mpr ⟨lw_p15, fun _ h => absurd h List.not_mem_nil⟩⟩⟩⟩⟩⟩⟩⟩⟩⟩⟩⟩⟩⟩⟩⟩
theorem lw_p16 : lw_okq (⟨"MaskTouchModel", "readsForm", "()V"⟩, 26) := ⟨⟨by decide +kernel, by decide +kernel⟩, List.mem_of_getElem? (i := 1037) (by decide +kernel), List.mem_of_getElem? (i := 1171) (by decide +kernel), List.mem_of_getElem? (i := 1172) (by decide +kernel)⟩
theorem lw_p17 : lw_okq (⟨"MaskTouchModel", "readsRows", "(I)V"⟩, 26) := ⟨⟨by decide +kernel, by decide +kernel⟩, List.mem_of_getElem? (i := 1037) (by decide +kernel), List.mem_of_getElem? (i := 1178) (by decide +kernel), List.mem_of_getElem? (i := 1179) (by decide +kernel)⟩
theorem lw_p18 : lw_okq (⟨"MaskTouchModel", "number", "(II)I"⟩, 26) := ⟨⟨by decide +kernel, by decide +kernel⟩, List.mem_of_getElem? (i := 1037) (by decide +kernel), List.mem_of_getElem? (i := 1190) (by decide +kernel), List.mem_of_getElem? (i := 1191) (by decide +kernel)⟩
theorem lw_p19 : lw_okq (⟨"MaskTouchModel", "laysBox", "(IIIZ)V"⟩, 26) := ⟨⟨by decide +kernel, by decide +kernel⟩, List.mem_of_getElem? (i := 1037) (by decide +kernel), List.mem_of_getElem? (i := 1198) (by decide +kernel), List.mem_of_getElem? (i := 1199) (by decide +kernel)⟩
theorem lw_p20 : lw_okq (⟨"MaskTouchModel", "laysDisk", "(II)V"⟩, 26) := ⟨⟨by decide +kernel, by decide +kernel⟩, List.mem_of_getElem? (i := 1037) (by decide +kernel), List.mem_of_getElem? (i := 1203) (by decide +kernel), List.mem_of_getElem? (i := 1204) (by decide +kernel)⟩
theorem lw_p21 : lw_okq (⟨"MaskTouchModel", "readsBody", "()V"⟩, 26) := ⟨⟨by decide +kernel, by decide +kernel⟩, List.mem_of_getElem? (i := 1037) (by decide +kernel), List.mem_of_getElem? (i := 1208) (by decide +kernel), List.mem_of_getElem? (i := 1209) (by decide +kernel)⟩
theorem lw_p22 : lw_okq (⟨"MaskTouchModel", "signed", "(I)I"⟩, 26) := ⟨⟨by decide +kernel, by decide +kernel⟩, List.mem_of_getElem? (i := 1037) (by decide +kernel), List.mem_of_getElem? (i := 1212) (by decide +kernel), List.mem_of_getElem? (i := 1213) (by decide +kernel)⟩
theorem lw_p23 : lw_okq (⟨"MaskTouchModel", "isBody", "(I)Z"⟩, 26) := ⟨⟨by decide +kernel, by decide +kernel⟩, List.mem_of_getElem? (i := 1037) (by decide +kernel), List.mem_of_getElem? (i := 1238) (by decide +kernel), List.mem_of_getElem? (i := 1239) (by decide +kernel)⟩
theorem lw_p24 : lw_okq (⟨"MaskTouchModel", "isPlace", "(II)Z"⟩, 26) := ⟨⟨by decide +kernel, by decide +kernel⟩, List.mem_of_getElem? (i := 1037) (by decide +kernel), List.mem_of_getElem? (i := 1242) (by decide +kernel), List.mem_of_getElem? (i := 1243) (by decide +kernel)⟩
theorem lw_p25 : lw_okq (⟨"MaskTouchModel", "of", "(II)I"⟩, 26) := ⟨⟨by decide +kernel, by decide +kernel⟩, List.mem_of_getElem? (i := 1037) (by decide +kernel), List.mem_of_getElem? (i := 1248) (by decide +kernel), List.mem_of_getElem? (i := 1249) (by decide +kernel)⟩
theorem lw_p26 : lw_okq (⟨"MaskTouchModel", "keepsPast", "()V"⟩, 26) := ⟨⟨by decide +kernel, by decide +kernel⟩, List.mem_of_getElem? (i := 1037) (by decide +kernel), List.mem_of_getElem? (i := 1252) (by decide +kernel), List.mem_of_getElem? (i := 1253) (by decide +kernel)⟩
theorem lw_p27 : lw_okq (⟨"MaskTouchModel", "laysAside", "()V"⟩, 26) := ⟨⟨by decide +kernel, by decide +kernel⟩, List.mem_of_getElem? (i := 1037) (by decide +kernel), List.mem_of_getElem? (i := 1256) (by decide +kernel), List.mem_of_getElem? (i := 1257) (by decide +kernel)⟩
theorem lw_p28 : lw_okq (⟨"MaskTouchModel", "remembersAside", "()V"⟩, 26) := ⟨⟨by decide +kernel, by decide +kernel⟩, List.mem_of_getElem? (i := 1037) (by decide +kernel), List.mem_of_getElem? (i := 1260) (by decide +kernel), List.mem_of_getElem? (i := 1261) (by decide +kernel)⟩
theorem lw_p29 : lw_okq (⟨"MaskTouchModel", "sets", "(III)V"⟩, 26) := ⟨⟨by decide +kernel, by decide +kernel⟩, List.mem_of_getElem? (i := 1037) (by decide +kernel), List.mem_of_getElem? (i := 1264) (by decide +kernel), List.mem_of_getElem? (i := 1265) (by decide +kernel)⟩
theorem lw_p30 : lw_okq (⟨"MaskTouchModel", "two", "(IIII)I"⟩, 26) := ⟨⟨by decide +kernel, by decide +kernel⟩, List.mem_of_getElem? (i := 1037) (by decide +kernel), List.mem_of_getElem? (i := 1278) (by decide +kernel), List.mem_of_getElem? (i := 1279) (by decide +kernel)⟩
theorem lw_p31 : lw_okq (⟨"MaskTouchModel", "isMask", "(I)Z"⟩, 26) := ⟨⟨by decide +kernel, by decide +kernel⟩, List.mem_of_getElem? (i := 1037) (by decide +kernel), List.mem_of_getElem? (i := 1292) (by decide +kernel), List.mem_of_getElem? (i := 1293) (by decide +kernel)⟩
def lw_privs_2 : List (MethodName × Nat) := [(⟨"MaskTouchModel", "readsForm", "()V"⟩, 26), (⟨"MaskTouchModel", "readsRows", "(I)V"⟩, 26), (⟨"MaskTouchModel", "number", "(II)I"⟩, 26), (⟨"MaskTouchModel", "laysBox", "(IIIZ)V"⟩, 26), (⟨"MaskTouchModel", "laysDisk", "(II)V"⟩, 26), (⟨"MaskTouchModel", "readsBody", "()V"⟩, 26), (⟨"MaskTouchModel", "signed", "(I)I"⟩, 26), (⟨"MaskTouchModel", "isBody", "(I)Z"⟩, 26), (⟨"MaskTouchModel", "isPlace", "(II)Z"⟩, 26), (⟨"MaskTouchModel", "of", "(II)I"⟩, 26), (⟨"MaskTouchModel", "keepsPast", "()V"⟩, 26), (⟨"MaskTouchModel", "laysAside", "()V"⟩, 26), (⟨"MaskTouchModel", "remembersAside", "()V"⟩, 26), (⟨"MaskTouchModel", "sets", "(III)V"⟩, 26), (⟨"MaskTouchModel", "two", "(IIII)I"⟩, 26), (⟨"MaskTouchModel", "isMask", "(I)Z"⟩, 26)]
theorem lw_r2 : ∀ q ∈ lw_privs_2, lw_okq q := List.forall_mem_cons.mpr ⟨lw_p16, List.forall_mem_cons.mpr ⟨lw_p17, List.forall_mem_cons.mpr ⟨lw_p18, List.forall_mem_cons.mpr ⟨lw_p19, List.forall_mem_cons.mpr ⟨lw_p20, List.forall_mem_cons.mpr ⟨lw_p21, List.forall_mem_cons.mpr ⟨lw_p22, List.forall_mem_cons.mpr ⟨lw_p23, List.forall_mem_cons.mpr ⟨lw_p24, List.forall_mem_cons.mpr ⟨lw_p25, List.forall_mem_cons.mpr ⟨lw_p26, List.forall_mem_cons.mpr ⟨lw_p27, List.forall_mem_cons.mpr ⟨lw_p28, List.forall_mem_cons.mpr ⟨lw_p29, List.forall_mem_cons.mpr ⟨lw_p30, List.forall_mem_cons.mpr ⟨lw_p31, fun _ h => absurd h List.not_mem_nil⟩⟩⟩⟩⟩⟩⟩⟩⟩⟩⟩⟩⟩⟩⟩⟩
theorem lw_p32 : lw_okq (⟨"MaskTouchModel", "wide", "(I)I"⟩, 26) := ⟨⟨by decide +kernel, by decide +kernel⟩, List.mem_of_getElem? (i := 1037) (by decide +kernel), List.mem_of_getElem? (i := 1296) (by decide +kernel), List.mem_of_getElem? (i := 1297) (by decide +kernel)⟩
theorem lw_p33 : lw_okq (⟨"MaskTouchModel", "high", "(I)I"⟩, 26) := ⟨⟨by decide +kernel, by decide +kernel⟩, List.mem_of_getElem? (i := 1037) (by decide +kernel), List.mem_of_getElem? (i := 1300) (by decide +kernel), List.mem_of_getElem? (i := 1301) (by decide +kernel)⟩
theorem lw_p34 : lw_okq (⟨"MaskTouchModel", "has", "(III)Z"⟩, 26) := ⟨⟨by decide +kernel, by decide +kernel⟩, List.mem_of_getElem? (i := 1037) (by decide +kernel), List.mem_of_getElem? (i := 1304) (by decide +kernel), List.mem_of_getElem? (i := 1305) (by decide +kernel)⟩
theorem lw_p35 : lw_okq (⟨"MaskTouchModel", "changes", "(IZ)I"⟩, 26) := ⟨⟨by decide +kernel, by decide +kernel⟩, List.mem_of_getElem? (i := 1037) (by decide +kernel), List.mem_of_getElem? (i := 1315) (by decide +kernel), List.mem_of_getElem? (i := 1316) (by decide +kernel)⟩
theorem lw_p36 : lw_okq (⟨"MaskTouchModel", "clearsMade", "()V"⟩, 26) := ⟨⟨by decide +kernel, by decide +kernel⟩, List.mem_of_getElem? (i := 1037) (by decide +kernel), List.mem_of_getElem? (i := 1319) (by decide +kernel), List.mem_of_getElem? (i := 1320) (by decide +kernel)⟩
theorem lw_p37 : lw_okq (⟨"MaskTouchModel", "around", "(III)I"⟩, 26) := ⟨⟨by decide +kernel, by decide +kernel⟩, List.mem_of_getElem? (i := 1037) (by decide +kernel), List.mem_of_getElem? (i := 1323) (by decide +kernel), List.mem_of_getElem? (i := 1324) (by decide +kernel)⟩
theorem lw_p38 : lw_okq (⟨"MaskTouchModel", "takesMade", "(I)V"⟩, 26) := ⟨⟨by decide +kernel, by decide +kernel⟩, List.mem_of_getElem? (i := 1037) (by decide +kernel), List.mem_of_getElem? (i := 1327) (by decide +kernel), List.mem_of_getElem? (i := 1328) (by decide +kernel)⟩
theorem lw_p39 : lw_okq (⟨"MaskTouchModel", "dotsOf", "(I)I"⟩, 26) := ⟨⟨by decide +kernel, by decide +kernel⟩, List.mem_of_getElem? (i := 1037) (by decide +kernel), List.mem_of_getElem? (i := 1341) (by decide +kernel), List.mem_of_getElem? (i := 1342) (by decide +kernel)⟩
theorem lw_p40 : lw_okq (⟨"MaskTouchModel", "laysAll", "()V"⟩, 26) := ⟨⟨by decide +kernel, by decide +kernel⟩, List.mem_of_getElem? (i := 1037) (by decide +kernel), List.mem_of_getElem? (i := 1355) (by decide +kernel), List.mem_of_getElem? (i := 1356) (by decide +kernel)⟩
theorem lw_p41 : lw_okq (⟨"MaskTouchModel", "maskOf", "(I)I"⟩, 26) := ⟨⟨by decide +kernel, by decide +kernel⟩, List.mem_of_getElem? (i := 1037) (by decide +kernel), List.mem_of_getElem? (i := 1359) (by decide +kernel), List.mem_of_getElem? (i := 1360) (by decide +kernel)⟩
theorem lw_p42 : lw_okq (⟨"MaskTouchModel", "slides", "(III)I"⟩, 26) := ⟨⟨by decide +kernel, by decide +kernel⟩, List.mem_of_getElem? (i := 1037) (by decide +kernel), List.mem_of_getElem? (i := 1363) (by decide +kernel), List.mem_of_getElem? (i := 1364) (by decide +kernel)⟩
theorem lw_p43 : lw_okq (⟨"MaskTouchModel", "touchingOf", "(I)I"⟩, 26) := ⟨⟨by decide +kernel, by decide +kernel⟩, List.mem_of_getElem? (i := 1037) (by decide +kernel), List.mem_of_getElem? (i := 1372) (by decide +kernel), List.mem_of_getElem? (i := 1373) (by decide +kernel)⟩
theorem lw_p44 : lw_okq (⟨"MaskTouchModel", "touches", "(IIII)Z"⟩, 26) := ⟨⟨by decide +kernel, by decide +kernel⟩, List.mem_of_getElem? (i := 1037) (by decide +kernel), List.mem_of_getElem? (i := 1376) (by decide +kernel), List.mem_of_getElem? (i := 1377) (by decide +kernel)⟩
theorem lw_p45 : lw_okq (⟨"MaskTouchModel", "mayTouch", "(II)Z"⟩, 26) := ⟨⟨by decide +kernel, by decide +kernel⟩, List.mem_of_getElem? (i := 1037) (by decide +kernel), List.mem_of_getElem? (i := 1380) (by decide +kernel), List.mem_of_getElem? (i := 1381) (by decide +kernel)⟩
theorem lw_p46 : lw_okq (⟨"MaskTouchModel", "meets", "(IIII)Z"⟩, 26) := ⟨⟨by decide +kernel, by decide +kernel⟩, List.mem_of_getElem? (i := 1037) (by decide +kernel), List.mem_of_getElem? (i := 1384) (by decide +kernel), List.mem_of_getElem? (i := 1385) (by decide +kernel)⟩
theorem lw_p47 : lw_okq (⟨"MaskTouchModel", "overlaps", "(IIIIZ)I"⟩, 26) := ⟨⟨by decide +kernel, by decide +kernel⟩, List.mem_of_getElem? (i := 1037) (by decide +kernel), List.mem_of_getElem? (i := 1388) (by decide +kernel), List.mem_of_getElem? (i := 1389) (by decide +kernel)⟩
def lw_privs_3 : List (MethodName × Nat) := [(⟨"MaskTouchModel", "wide", "(I)I"⟩, 26), (⟨"MaskTouchModel", "high", "(I)I"⟩, 26), (⟨"MaskTouchModel", "has", "(III)Z"⟩, 26), (⟨"MaskTouchModel", "changes", "(IZ)I"⟩, 26), (⟨"MaskTouchModel", "clearsMade", "()V"⟩, 26), (⟨"MaskTouchModel", "around", "(III)I"⟩, 26), (⟨"MaskTouchModel", "takesMade", "(I)V"⟩, 26), (⟨"MaskTouchModel", "dotsOf", "(I)I"⟩, 26), (⟨"MaskTouchModel", "laysAll", "()V"⟩, 26), (⟨"MaskTouchModel", "maskOf", "(I)I"⟩, 26), (⟨"MaskTouchModel", "slides", "(III)I"⟩, 26), (⟨"MaskTouchModel", "touchingOf", "(I)I"⟩, 26), (⟨"MaskTouchModel", "touches", "(IIII)Z"⟩, 26), (⟨"MaskTouchModel", "mayTouch", "(II)Z"⟩, 26), (⟨"MaskTouchModel", "meets", "(IIII)Z"⟩, 26), (⟨"MaskTouchModel", "overlaps", "(IIIIZ)I"⟩, 26)]
theorem lw_r3 : ∀ q ∈ lw_privs_3, lw_okq q := List.forall_mem_cons.mpr ⟨lw_p32, List.forall_mem_cons.mpr ⟨lw_p33, List.forall_mem_cons.mpr ⟨lw_p34, List.forall_mem_cons.mpr ⟨lw_p35, List.forall_mem_cons.mpr ⟨lw_p36, List.forall_mem_cons.mpr ⟨lw_p37, List.forall_mem_cons.mpr ⟨lw_p38, List.forall_mem_cons.mpr ⟨lw_p39, List.forall_mem_cons.mpr ⟨lw_p40, List.forall_mem_cons.mpr ⟨lw_p41, List.forall_mem_cons.mpr ⟨lw_p42, List.forall_mem_cons.mpr ⟨lw_p43, List.forall_mem_cons.mpr ⟨lw_p44, List.forall_mem_cons.mpr ⟨lw_p45, List.forall_mem_cons.mpr ⟨lw_p46, List.forall_mem_cons.mpr ⟨lw_p47, fun _ h => absurd h List.not_mem_nil⟩⟩⟩⟩⟩⟩⟩⟩⟩⟩⟩⟩⟩⟩⟩⟩
theorem lw_p48 : lw_okq (⟨"MaskTouchModel", "goes", "(III)V"⟩, 26) := ⟨⟨by decide +kernel, by decide +kernel⟩, List.mem_of_getElem? (i := 1037) (by decide +kernel), List.mem_of_getElem? (i := 1402) (by decide +kernel), List.mem_of_getElem? (i := 1403) (by decide +kernel)⟩
theorem lw_p49 : lw_okq (⟨"MaskTouchModel", "goers", "(III)I"⟩, 26) := ⟨⟨by decide +kernel, by decide +kernel⟩, List.mem_of_getElem? (i := 1037) (by decide +kernel), List.mem_of_getElem? (i := 1410) (by decide +kernel), List.mem_of_getElem? (i := 1411) (by decide +kernel)⟩
theorem lw_p50 : lw_okq (⟨"MaskTouchModel", "isPushed", "(IIII)Z"⟩, 26) := ⟨⟨by decide +kernel, by decide +kernel⟩, List.mem_of_getElem? (i := 1037) (by decide +kernel), List.mem_of_getElem? (i := 1414) (by decide +kernel), List.mem_of_getElem? (i := 1415) (by decide +kernel)⟩
theorem lw_p51 : lw_okq (⟨"MaskTouchModel", "canGo", "(III)Z"⟩, 26) := ⟨⟨by decide +kernel, by decide +kernel⟩, List.mem_of_getElem? (i := 1037) (by decide +kernel), List.mem_of_getElem? (i := 1418) (by decide +kernel), List.mem_of_getElem? (i := 1419) (by decide +kernel)⟩
theorem lw_p52 : lw_okq (⟨"MaskTouchModel", "slidesNow", "(III)I"⟩, 26) := ⟨⟨by decide +kernel, by decide +kernel⟩, List.mem_of_getElem? (i := 1037) (by decide +kernel), List.mem_of_getElem? (i := 1426) (by decide +kernel), List.mem_of_getElem? (i := 1427) (by decide +kernel)⟩
theorem lw_p53 : lw_okq (⟨"MaskTouchModel", "reaches", "(I)Z"⟩, 26) := ⟨⟨by decide +kernel, by decide +kernel⟩, List.mem_of_getElem? (i := 1037) (by decide +kernel), List.mem_of_getElem? (i := 1434) (by decide +kernel), List.mem_of_getElem? (i := 1435) (by decide +kernel)⟩
theorem lw_p54 : lw_okq (⟨"MaskTouchModel", "leftOf", "(II)I"⟩, 26) := ⟨⟨by decide +kernel, by decide +kernel⟩, List.mem_of_getElem? (i := 1037) (by decide +kernel), List.mem_of_getElem? (i := 1438) (by decide +kernel), List.mem_of_getElem? (i := 1439) (by decide +kernel)⟩
theorem lw_p55 : lw_okq (⟨"MaskTouchModel", "aboveOf", "(II)I"⟩, 26) := ⟨⟨by decide +kernel, by decide +kernel⟩, List.mem_of_getElem? (i := 1037) (by decide +kernel), List.mem_of_getElem? (i := 1442) (by decide +kernel), List.mem_of_getElem? (i := 1443) (by decide +kernel)⟩
theorem lw_p56 : lw_okq (⟨"MaskTouchModel", "islandsOf", "(I)I"⟩, 26) := ⟨⟨by decide +kernel, by decide +kernel⟩, List.mem_of_getElem? (i := 1037) (by decide +kernel), List.mem_of_getElem? (i := 1458) (by decide +kernel), List.mem_of_getElem? (i := 1459) (by decide +kernel)⟩
theorem lw_p57 : lw_okq (⟨"MaskTouchModel", "laysIslands", "(IZ)V"⟩, 26) := ⟨⟨by decide +kernel, by decide +kernel⟩, List.mem_of_getElem? (i := 1037) (by decide +kernel), List.mem_of_getElem? (i := 1462) (by decide +kernel), List.mem_of_getElem? (i := 1463) (by decide +kernel)⟩
theorem lw_p58 : lw_okq (⟨"MaskTouchModel", "joinsIsland", "(IIIZ)V"⟩, 26) := ⟨⟨by decide +kernel, by decide +kernel⟩, List.mem_of_getElem? (i := 1037) (by decide +kernel), List.mem_of_getElem? (i := 1466) (by decide +kernel), List.mem_of_getElem? (i := 1467) (by decide +kernel)⟩
theorem lw_p59 : lw_okq (⟨"MaskTouchModel", "holesOf", "(I)I"⟩, 26) := ⟨⟨by decide +kernel, by decide +kernel⟩, List.mem_of_getElem? (i := 1037) (by decide +kernel), List.mem_of_getElem? (i := 1470) (by decide +kernel), List.mem_of_getElem? (i := 1471) (by decide +kernel)⟩
theorem lw_p60 : lw_okq (⟨"MaskTouchModel", "isOutside", "(II)Z"⟩, 26) := ⟨⟨by decide +kernel, by decide +kernel⟩, List.mem_of_getElem? (i := 1037) (by decide +kernel), List.mem_of_getElem? (i := 1474) (by decide +kernel), List.mem_of_getElem? (i := 1475) (by decide +kernel)⟩
theorem lw_p61 : lw_okq (⟨"MaskTouchModel", "edgeOf", "(I)I"⟩, 26) := ⟨⟨by decide +kernel, by decide +kernel⟩, List.mem_of_getElem? (i := 1037) (by decide +kernel), List.mem_of_getElem? (i := 1478) (by decide +kernel), List.mem_of_getElem? (i := 1479) (by decide +kernel)⟩
theorem lw_p62 : lw_okq (⟨"MaskTouchModel", "areTwo", "(II)Z"⟩, 26) := ⟨⟨by decide +kernel, by decide +kernel⟩, List.mem_of_getElem? (i := 1037) (by decide +kernel), List.mem_of_getElem? (i := 1499) (by decide +kernel), List.mem_of_getElem? (i := 1500) (by decide +kernel)⟩
theorem lw_p63 : lw_okq (⟨"MaskTouchModel", "commonBy", "(IIII)I"⟩, 26) := ⟨⟨by decide +kernel, by decide +kernel⟩, List.mem_of_getElem? (i := 1037) (by decide +kernel), List.mem_of_getElem? (i := 1503) (by decide +kernel), List.mem_of_getElem? (i := 1504) (by decide +kernel)⟩
def lw_privs_4 : List (MethodName × Nat) := [(⟨"MaskTouchModel", "goes", "(III)V"⟩, 26), (⟨"MaskTouchModel", "goers", "(III)I"⟩, 26), (⟨"MaskTouchModel", "isPushed", "(IIII)Z"⟩, 26), (⟨"MaskTouchModel", "canGo", "(III)Z"⟩, 26), (⟨"MaskTouchModel", "slidesNow", "(III)I"⟩, 26), (⟨"MaskTouchModel", "reaches", "(I)Z"⟩, 26), (⟨"MaskTouchModel", "leftOf", "(II)I"⟩, 26), (⟨"MaskTouchModel", "aboveOf", "(II)I"⟩, 26), (⟨"MaskTouchModel", "islandsOf", "(I)I"⟩, 26), (⟨"MaskTouchModel", "laysIslands", "(IZ)V"⟩, 26), (⟨"MaskTouchModel", "joinsIsland", "(IIIZ)V"⟩, 26), (⟨"MaskTouchModel", "holesOf", "(I)I"⟩, 26), (⟨"MaskTouchModel", "isOutside", "(II)Z"⟩, 26), (⟨"MaskTouchModel", "edgeOf", "(I)I"⟩, 26), (⟨"MaskTouchModel", "areTwo", "(II)Z"⟩, 26), (⟨"MaskTouchModel", "commonBy", "(IIII)I"⟩, 26)]
theorem lw_r4 : ∀ q ∈ lw_privs_4, lw_okq q := List.forall_mem_cons.mpr ⟨lw_p48, List.forall_mem_cons.mpr ⟨lw_p49, List.forall_mem_cons.mpr ⟨lw_p50, List.forall_mem_cons.mpr ⟨lw_p51, List.forall_mem_cons.mpr ⟨lw_p52, List.forall_mem_cons.mpr ⟨lw_p53, List.forall_mem_cons.mpr ⟨lw_p54, List.forall_mem_cons.mpr ⟨lw_p55, List.forall_mem_cons.mpr ⟨lw_p56, List.forall_mem_cons.mpr ⟨lw_p57, List.forall_mem_cons.mpr ⟨lw_p58, List.forall_mem_cons.mpr ⟨lw_p59, List.forall_mem_cons.mpr ⟨lw_p60, List.forall_mem_cons.mpr ⟨lw_p61, List.forall_mem_cons.mpr ⟨lw_p62, List.forall_mem_cons.mpr ⟨lw_p63, fun _ h => absurd h List.not_mem_nil⟩⟩⟩⟩⟩⟩⟩⟩⟩⟩⟩⟩⟩⟩⟩⟩
theorem lw_p64 : lw_okq (⟨"MaskTouchModel", "lies", "(III)Z"⟩, 26) := ⟨⟨by decide +kernel, by decide +kernel⟩, List.mem_of_getElem? (i := 1037) (by decide +kernel), List.mem_of_getElem? (i := 1511) (by decide +kernel), List.mem_of_getElem? (i := 1512) (by decide +kernel)⟩
theorem lw_p65 : lw_okq (⟨"MaskTouchModel", "boxesMeet", "(II)Z"⟩, 26) := ⟨⟨by decide +kernel, by decide +kernel⟩, List.mem_of_getElem? (i := 1037) (by decide +kernel), List.mem_of_getElem? (i := 1524) (by decide +kernel), List.mem_of_getElem? (i := 1525) (by decide +kernel)⟩
theorem lw_p66 : lw_okq (⟨"MaskTouchModel", "hasBox", "(I)Z"⟩, 26) := ⟨⟨by decide +kernel, by decide +kernel⟩, List.mem_of_getElem? (i := 1037) (by decide +kernel), List.mem_of_getElem? (i := 1528) (by decide +kernel), List.mem_of_getElem? (i := 1529) (by decide +kernel)⟩
theorem lw_p67 : lw_okq (⟨"MaskTouchModel", "bodiesAt", "(II)I"⟩, 26) := ⟨⟨by decide +kernel, by decide +kernel⟩, List.mem_of_getElem? (i := 1037) (by decide +kernel), List.mem_of_getElem? (i := 1540) (by decide +kernel), List.mem_of_getElem? (i := 1541) (by decide +kernel)⟩
theorem lw_p68 : lw_okq (⟨"MaskTouchModel", "masksMeet", "(IIII)Z"⟩, 26) := ⟨⟨by decide +kernel, by decide +kernel⟩, List.mem_of_getElem? (i := 1037) (by decide +kernel), List.mem_of_getElem? (i := 1590) (by decide +kernel), List.mem_of_getElem? (i := 1591) (by decide +kernel)⟩
theorem lw_p69 : lw_okq (⟨"MaskTouchModel", "areLike", "(III)Z"⟩, 26) := ⟨⟨by decide +kernel, by decide +kernel⟩, List.mem_of_getElem? (i := 1037) (by decide +kernel), List.mem_of_getElem? (i := 1598) (by decide +kernel), List.mem_of_getElem? (i := 1599) (by decide +kernel)⟩
theorem lw_p70 : lw_okq (⟨"MaskTouchModel", "within", "(IIIII)I"⟩, 26) := ⟨⟨by decide +kernel, by decide +kernel⟩, List.mem_of_getElem? (i := 1037) (by decide +kernel), List.mem_of_getElem? (i := 1610) (by decide +kernel), List.mem_of_getElem? (i := 1611) (by decide +kernel)⟩
theorem lw_p71 : lw_okq (⟨"MaskTouchModel", "farthest", "(I)I"⟩, 26) := ⟨⟨by decide +kernel, by decide +kernel⟩, List.mem_of_getElem? (i := 1037) (by decide +kernel), List.mem_of_getElem? (i := 1622) (by decide +kernel), List.mem_of_getElem? (i := 1623) (by decide +kernel)⟩
theorem lw_p72 : lw_okq (⟨"MaskTouchModel", "dotsOfAll", "()I"⟩, 26) := ⟨⟨by decide +kernel, by decide +kernel⟩, List.mem_of_getElem? (i := 1037) (by decide +kernel), List.mem_of_getElem? (i := 1656) (by decide +kernel), List.mem_of_getElem? (i := 1657) (by decide +kernel)⟩
def lw_privs_5 : List (MethodName × Nat) := [(⟨"MaskTouchModel", "lies", "(III)Z"⟩, 26), (⟨"MaskTouchModel", "boxesMeet", "(II)Z"⟩, 26), (⟨"MaskTouchModel", "hasBox", "(I)Z"⟩, 26), (⟨"MaskTouchModel", "bodiesAt", "(II)I"⟩, 26), (⟨"MaskTouchModel", "masksMeet", "(IIII)Z"⟩, 26), (⟨"MaskTouchModel", "areLike", "(III)Z"⟩, 26), (⟨"MaskTouchModel", "within", "(IIIII)I"⟩, 26), (⟨"MaskTouchModel", "farthest", "(I)I"⟩, 26), (⟨"MaskTouchModel", "dotsOfAll", "()I"⟩, 26)]
theorem lw_r5 : ∀ q ∈ lw_privs_5, lw_okq q := List.forall_mem_cons.mpr ⟨lw_p64, List.forall_mem_cons.mpr ⟨lw_p65, List.forall_mem_cons.mpr ⟨lw_p66, List.forall_mem_cons.mpr ⟨lw_p67, List.forall_mem_cons.mpr ⟨lw_p68, List.forall_mem_cons.mpr ⟨lw_p69, List.forall_mem_cons.mpr ⟨lw_p70, List.forall_mem_cons.mpr ⟨lw_p71, List.forall_mem_cons.mpr ⟨lw_p72, fun _ h => absurd h List.not_mem_nil⟩⟩⟩⟩⟩⟩⟩⟩⟩
def lw_privs : List (MethodName × Nat) := lw_privs_1 ++ (lw_privs_2 ++ (lw_privs_3 ++ (lw_privs_4 ++ (lw_privs_5))))
def lw_tbl : List Cond := k2_sels lw_privs ++ tables_1
theorem lw_privs_ok : ∀ q ∈ lw_privs, lw_okq q := by
  show ∀ q ∈ lw_privs_1 ++ (lw_privs_2 ++ (lw_privs_3 ++ (lw_privs_4 ++ (lw_privs_5)))), lw_okq q
  exact List.forall_mem_append.mpr ⟨lw_r1, List.forall_mem_append.mpr ⟨lw_r2, List.forall_mem_append.mpr ⟨lw_r3, List.forall_mem_append.mpr ⟨lw_r4, lw_r5⟩⟩⟩⟩
/-- the streams that the claim lets the run draw from -/
abbrev lw_cs : List Choice := [Jvm.Choice.named "NaN.bits"]
theorem lw_bits : nanBits ∈ lw_cs := by first | decide | exact List.mem_cons_self | simp [lw_cs, nanBits]
end
section
def RX0 : String := "MaskTouch$Body"
def TX0 : u_T := fun k => match k with
  | 0 => ("MaskTouch$Body", "mask", "I", false)
  | 1 => ("MaskTouch$Body", "x", "I", false)
  | 2 => ("MaskTouch$Body", "y", "I", false)
  | 3 => ("MaskTouch$Body", "flip", "I", false)
  | 4 => ("MaskTouch$Body", "own", "I", false)
  | 5 => ("MaskTouch$Body", "sees", "I", false)
  | 6 => ("MaskTouch$Body", "vx", "I", false)
  | _ => ("MaskTouch$Body", "vy", "I", false)
def tyX0 : Nat → FieldType := fun k => match k with
  | 0 => .int
  | 1 => .int
  | 2 => .int
  | 3 => .int
  | 4 => .int
  | 5 => .int
  | 6 => .int
  | _ => .int
theorem nmX0 : ∀ a, a < 8 → ∀ b, b < 8 → a ≠ b → (TX0 a).2.1 ≠ (TX0 b).2.1 := by decide +kernel
theorem tyX0_ok : ∀ k, k < 8 → parseFieldDescriptor (TX0 k).2.2.1 = some (tyX0 k) := by decide +kernel
def RX1 : String := "MaskTouch$Field"
def TX1 : u_T := fun k => match k with
  | 0 => ("MaskTouch$Field", "masks", "[LMaskTouch$Mask;", true)
  | 1 => ("MaskTouch$Field", "bodies", "[LMaskTouch$Body;", true)
  | 2 => ("MaskTouch$Field", "maskCount", "I", false)
  | 3 => ("MaskTouch$Field", "bodyCount", "I", false)
  | _ => ("MaskTouch$Field", "tickCount", "I", false)
def tyX1 : Nat → FieldType := fun k => match k with
  | 0 => .array (.object "MaskTouch$Mask")
  | 1 => .array (.object "MaskTouch$Body")
  | 2 => .int
  | 3 => .int
  | _ => .int
theorem nmX1 : ∀ a, a < 5 → ∀ b, b < 5 → a ≠ b → (TX1 a).2.1 ≠ (TX1 b).2.1 := by decide +kernel
theorem tyX1_ok : ∀ k, k < 5 → parseFieldDescriptor (TX1 k).2.2.1 = some (tyX1 k) := by decide +kernel
def RX2 : String := "MaskTouch$Flood"
def TX2 : u_T := fun k => match k with
  | 0 => ("MaskTouch$Flood", "open", "LMaskTouch$Mask;", true)
  | 1 => ("MaskTouch$Flood", "queue", "[I", true)
  | 2 => ("MaskTouch$Flood", "queued", "I", false)
  | 3 => ("MaskTouch$Flood", "size", "I", false)
  | 4 => ("MaskTouch$Flood", "left", "I", false)
  | 5 => ("MaskTouch$Flood", "top", "I", false)
  | 6 => ("MaskTouch$Flood", "right", "I", false)
  | _ => ("MaskTouch$Flood", "bottom", "I", false)
def tyX2 : Nat → FieldType := fun k => match k with
  | 0 => .object "MaskTouch$Mask"
  | 1 => .array .int
  | 2 => .int
  | 3 => .int
  | 4 => .int
  | 5 => .int
  | 6 => .int
  | _ => .int
theorem nmX2 : ∀ a, a < 8 → ∀ b, b < 8 → a ≠ b → (TX2 a).2.1 ≠ (TX2 b).2.1 := by decide +kernel
theorem tyX2_ok : ∀ k, k < 8 → parseFieldDescriptor (TX2 k).2.2.1 = some (tyX2 k) := by decide +kernel
def RX3 : String := "MaskTouch$Mask"
def TX3 : u_T := fun k => match k with
  | 0 => ("MaskTouch$Mask", "wide", "I", false)
  | 1 => ("MaskTouch$Mask", "high", "I", false)
  | 2 => ("MaskTouch$Mask", "words", "[J", true)
  | 3 => ("MaskTouch$Mask", "total", "I", false)
  | 4 => ("MaskTouch$Mask", "left", "I", false)
  | 5 => ("MaskTouch$Mask", "top", "I", false)
  | 6 => ("MaskTouch$Mask", "right", "I", false)
  | _ => ("MaskTouch$Mask", "bottom", "I", false)
def tyX3 : Nat → FieldType := fun k => match k with
  | 0 => .int
  | 1 => .int
  | 2 => .array .long
  | 3 => .int
  | 4 => .int
  | 5 => .int
  | 6 => .int
  | _ => .int
theorem nmX3 : ∀ a, a < 8 → ∀ b, b < 8 → a ≠ b → (TX3 a).2.1 ≠ (TX3 b).2.1 := by decide +kernel
theorem tyX3_ok : ∀ k, k < 8 → parseFieldDescriptor (TX3 k).2.2.1 = some (tyX3 k) := by decide +kernel
def RX4 : String := "MaskTouch$Reader"
def TX4 : u_T := fun k => match k with
  | 0 => ("MaskTouch$Reader", "text", "[B", true)
  | 1 => ("MaskTouch$Reader", "length", "I", false)
  | 2 => ("MaskTouch$Reader", "spot", "I", false)
  | 3 => ("MaskTouch$Reader", "wordStart", "I", false)
  | 4 => ("MaskTouch$Reader", "number", "I", false)
  | _ => ("MaskTouch$Reader", "fault", "I", false)
def tyX4 : Nat → FieldType := fun k => match k with
  | 0 => .array .byte
  | 1 => .int
  | 2 => .int
  | 3 => .int
  | 4 => .int
  | _ => .int
theorem nmX4 : ∀ a, a < 6 → ∀ b, b < 6 → a ≠ b → (TX4 a).2.1 ≠ (TX4 b).2.1 := by decide +kernel
theorem tyX4_ok : ∀ k, k < 6 → parseFieldDescriptor (TX4 k).2.2.1 = some (tyX4 k) := by decide +kernel
def RX5 : String := "MaskTouch$Scene"
def TX5 : u_T := fun k => match k with
  | 0 => ("MaskTouch$Scene", "field", "LMaskTouch$Field;", true)
  | 1 => ("MaskTouch$Scene", "shapes", "[LMaskTouch$Mask;", true)
  | 2 => ("MaskTouch$Scene", "steps", "I", false)
  | 3 => ("MaskTouch$Scene", "stopper", "I", false)
  | 4 => ("MaskTouch$Scene", "goneX", "I", false)
  | 5 => ("MaskTouch$Scene", "goneY", "I", false)
  | 6 => ("MaskTouch$Scene", "found", "I", false)
  | 7 => ("MaskTouch$Scene", "foundX", "I", false)
  | _ => ("MaskTouch$Scene", "foundY", "I", false)
def tyX5 : Nat → FieldType := fun k => match k with
  | 0 => .object "MaskTouch$Field"
  | 1 => .array (.object "MaskTouch$Mask")
  | 2 => .int
  | 3 => .int
  | 4 => .int
  | 5 => .int
  | 6 => .int
  | 7 => .int
  | _ => .int
theorem nmX5 : ∀ a, a < 9 → ∀ b, b < 9 → a ≠ b → (TX5 a).2.1 ≠ (TX5 b).2.1 := by decide +kernel
theorem tyX5_ok : ∀ k, k < 9 → parseFieldDescriptor (TX5 k).2.2.1 = some (tyX5 k) := by decide +kernel
def RX6 : String := "MaskTouch"
def TX6 : u_T := fun k => match k with
  | 0 => ("MaskTouch", "tape", "[B", true)
  | 1 => ("MaskTouch", "taped", "I", false)
  | 2 => ("MaskTouch", "now", "LMaskTouch$Field;", true)
  | 3 => ("MaskTouch", "draft", "LMaskTouch$Field;", true)
  | 4 => ("MaskTouch", "reader", "LMaskTouch$Reader;", true)
  | 5 => ("MaskTouch", "scene", "LMaskTouch$Scene;", true)
  | 6 => ("MaskTouch", "sketch", "LMaskTouch$Mask;", true)
  | 7 => ("MaskTouch", "flood", "LMaskTouch$Flood;", true)
  | 8 => ("MaskTouch", "past", "[LMaskTouch$Field;", true)
  | 9 => ("MaskTouch", "oldest", "I", false)
  | 10 => ("MaskTouch", "undoable", "I", false)
  | _ => ("MaskTouch", "shelves", "[LMaskTouch$Field;", true)
def tyX6 : Nat → FieldType := fun k => match k with
  | 0 => .array .byte
  | 1 => .int
  | 2 => .object "MaskTouch$Field"
  | 3 => .object "MaskTouch$Field"
  | 4 => .object "MaskTouch$Reader"
  | 5 => .object "MaskTouch$Scene"
  | 6 => .object "MaskTouch$Mask"
  | 7 => .object "MaskTouch$Flood"
  | 8 => .array (.object "MaskTouch$Field")
  | 9 => .int
  | 10 => .int
  | _ => .array (.object "MaskTouch$Field")
theorem nmX6 : ∀ a, a < 12 → ∀ b, b < 12 → a ≠ b → (TX6 a).2.1 ≠ (TX6 b).2.1 := by decide +kernel
theorem tyX6_ok : ∀ k, k < 12 → parseFieldDescriptor (TX6 k).2.2.1 = some (tyX6 k) := by decide +kernel
def RX7 : String := "MaskTouchModel"
def TX7 : u_T := fun k => match k with
  | 0 => ("MaskTouchModel", "now", "[I", true)
  | 1 => ("MaskTouchModel", "heard", "[I", true)
  | 2 => ("MaskTouchModel", "aside", "[I", true)
  | 3 => ("MaskTouchModel", "past", "[I", true)
  | 4 => ("MaskTouchModel", "shelf", "[I", true)
  | 5 => ("MaskTouchModel", "dots", "[J", true)
  | 6 => ("MaskTouchModel", "heardDots", "[J", true)
  | 7 => ("MaskTouchModel", "asideDots", "[J", true)
  | 8 => ("MaskTouchModel", "pastDots", "[J", true)
  | 9 => ("MaskTouchModel", "shelfDots", "[J", true)
  | 10 => ("MaskTouchModel", "isKept", "[Z", true)
  | 11 => ("MaskTouchModel", "pastMany", "I", false)
  | 12 => ("MaskTouchModel", "tape", "[B", true)
  | 13 => ("MaskTouchModel", "taped", "I", false)
  | 14 => ("MaskTouchModel", "at", "I", false)
  | 15 => ("MaskTouchModel", "fault", "I", false)
  | 16 => ("MaskTouchModel", "numberAt", "I", false)
  | 17 => ("MaskTouchModel", "laid", "[J", true)
  | 18 => ("MaskTouchModel", "stopper", "I", false)
  | 19 => ("MaskTouchModel", "made", "[J", true)
  | 20 => ("MaskTouchModel", "ends", "[I", true)
  | 21 => ("MaskTouchModel", "island", "[I", true)
  | 22 => ("MaskTouchModel", "queue", "[I", true)
  | 23 => ("MaskTouchModel", "islands", "I", false)
  | 24 => ("MaskTouchModel", "queued", "I", false)
  | _ => ("MaskTouchModel", "box", "[I", true)
def tyX7 : Nat → FieldType := fun k => match k with
  | 0 => .array .int
  | 1 => .array .int
  | 2 => .array .int
  | 3 => .array .int
  | 4 => .array .int
  | 5 => .array .long
  | 6 => .array .long
  | 7 => .array .long
  | 8 => .array .long
  | 9 => .array .long
  | 10 => .array .boolean
  | 11 => .int
  | 12 => .array .byte
  | 13 => .int
  | 14 => .int
  | 15 => .int
  | 16 => .int
  | 17 => .array .long
  | 18 => .int
  | 19 => .array .long
  | 20 => .array .int
  | 21 => .array .int
  | 22 => .array .int
  | 23 => .int
  | 24 => .int
  | _ => .array .int
theorem nmX7 : ∀ a, a < 26 → ∀ b, b < 26 → a ≠ b → (TX7 a).2.1 ≠ (TX7 b).2.1 := by decide +kernel
theorem tyX7_ok : ∀ k, k < 26 → parseFieldDescriptor (TX7 k).2.2.1 = some (tyX7 k) := by decide +kernel
def RL : String := "MaskTouchLaw"
def RJ9 : String := "java/lang/Math"
abbrev vwCl : List vw_C := [(RX0, TX0, 8), (RX1, TX1, 5), (RX2, TX2, 8), (RX3, TX3, 8), (RX4, TX4, 6), (RX5, TX5, 9), (RX6, TX6, 12), (RX7, TX7, 26)]
theorem dfX0 : ∀ j, j < 8 → defaultValue (tyX0 j) = vp_V [.int 0, .int 0, .int 0, .int 0, .int 0, .int 0, .int 0, .int 0] j := by
  intro j hj
  match j, hj with
  | 0, _ => rfl
  | 1, _ => rfl
  | 2, _ => rfl
  | 3, _ => rfl
  | 4, _ => rfl
  | 5, _ => rfl
  | 6, _ => rfl
  | 7, _ => rfl
  | k + 8, h => exact absurd h (by omega)
theorem dfX1 : ∀ j, j < 5 → defaultValue (tyX1 j) = vp_V [.null, .null, .int 0, .int 0, .int 0] j := by
  intro j hj
  match j, hj with
  | 0, _ => rfl
  | 1, _ => rfl
  | 2, _ => rfl
  | 3, _ => rfl
  | 4, _ => rfl
  | k + 5, h => exact absurd h (by omega)
theorem dfX2 : ∀ j, j < 8 → defaultValue (tyX2 j) = vp_V [.null, .null, .int 0, .int 0, .int 0, .int 0, .int 0, .int 0] j := by
  intro j hj
  match j, hj with
  | 0, _ => rfl
  | 1, _ => rfl
  | 2, _ => rfl
  | 3, _ => rfl
  | 4, _ => rfl
  | 5, _ => rfl
  | 6, _ => rfl
  | 7, _ => rfl
  | k + 8, h => exact absurd h (by omega)
theorem dfX3 : ∀ j, j < 8 → defaultValue (tyX3 j) = vp_V [.int 0, .int 0, .null, .int 0, .int 0, .int 0, .int 0, .int 0] j := by
  intro j hj
  match j, hj with
  | 0, _ => rfl
  | 1, _ => rfl
  | 2, _ => rfl
  | 3, _ => rfl
  | 4, _ => rfl
  | 5, _ => rfl
  | 6, _ => rfl
  | 7, _ => rfl
  | k + 8, h => exact absurd h (by omega)
theorem dfX4 : ∀ j, j < 6 → defaultValue (tyX4 j) = vp_V [.null, .int 0, .int 0, .int 0, .int 0, .int 0] j := by
  intro j hj
  match j, hj with
  | 0, _ => rfl
  | 1, _ => rfl
  | 2, _ => rfl
  | 3, _ => rfl
  | 4, _ => rfl
  | 5, _ => rfl
  | k + 6, h => exact absurd h (by omega)
theorem dfX5 : ∀ j, j < 9 → defaultValue (tyX5 j) = vp_V [.null, .null, .int 0, .int 0, .int 0, .int 0, .int 0, .int 0, .int 0] j := by
  intro j hj
  match j, hj with
  | 0, _ => rfl
  | 1, _ => rfl
  | 2, _ => rfl
  | 3, _ => rfl
  | 4, _ => rfl
  | 5, _ => rfl
  | 6, _ => rfl
  | 7, _ => rfl
  | 8, _ => rfl
  | k + 9, h => exact absurd h (by omega)
theorem dfX6 : ∀ j, j < 12 → defaultValue (tyX6 j) = vp_V [.null, .int 0, .null, .null, .null, .null, .null, .null, .null, .int 0, .int 0, .null] j := by
  intro j hj
  match j, hj with
  | 0, _ => rfl
  | 1, _ => rfl
  | 2, _ => rfl
  | 3, _ => rfl
  | 4, _ => rfl
  | 5, _ => rfl
  | 6, _ => rfl
  | 7, _ => rfl
  | 8, _ => rfl
  | 9, _ => rfl
  | 10, _ => rfl
  | 11, _ => rfl
  | k + 12, h => exact absurd h (by omega)
theorem dfX7 : ∀ j, j < 26 → defaultValue (tyX7 j) = vp_V [.null, .null, .null, .null, .null, .null, .null, .null, .null, .null, .null, .int 0, .null, .int 0, .int 0, .int 0, .int 0, .null, .int 0, .null, .null, .null, .null, .int 0, .int 0, .null] j := by
  intro j hj
  match j, hj with
  | 0, _ => rfl
  | 1, _ => rfl
  | 2, _ => rfl
  | 3, _ => rfl
  | 4, _ => rfl
  | 5, _ => rfl
  | 6, _ => rfl
  | 7, _ => rfl
  | 8, _ => rfl
  | 9, _ => rfl
  | 10, _ => rfl
  | 11, _ => rfl
  | 12, _ => rfl
  | 13, _ => rfl
  | 14, _ => rfl
  | 15, _ => rfl
  | 16, _ => rfl
  | 17, _ => rfl
  | 18, _ => rfl
  | 19, _ => rfl
  | 20, _ => rfl
  | 21, _ => rfl
  | 22, _ => rfl
  | 23, _ => rfl
  | 24, _ => rfl
  | 25, _ => rfl
  | k + 26, h => exact absurd h (by omega)
end
section
def yX0_init : MethodName := ⟨RX0, "<init>", "()V"⟩
def yX2_init : MethodName := ⟨RX2, "<init>", "()V"⟩
def yX3_init : MethodName := ⟨RX3, "<init>", "()V"⟩
theorem mem_r {big : List Cond} (ws : List Cond) (ps : List Nat) (hp : ws = ps.filterMap (fun i => big[i]?)) : ∀ w ∈ ws, w ∈ big := by
  intro w hw
  rw [hp] at hw
  obtain ⟨i, -, hi⟩ := List.mem_filterMap.mp hw
  exact List.mem_of_getElem? hi
/-- the tables' words that keep: what every contract here takes as its words -/
def pw : List Cond := lw_tbl.filter goodWord
theorem pw_mem {i : Nat} {w : Cond} (h : lw_tbl[i]? = some w) (g : goodWord w = true) : w ∈ pw := List.mem_filter.mpr ⟨List.mem_of_getElem? h, g⟩
theorem pw_tbl {w : Cond} (h : w ∈ pw) : w ∈ lw_tbl := (List.mem_filter.mp h).1
theorem pw_good {w : Cond} (h : w ∈ pw) : (w.onTables && w.keeps) = true ∨ ∃ ty, w = .arrayClass ty := good_of_word (List.mem_filter.mp h).2
theorem gI {y : MethodName} {c : ByteArray} {n : Nat} {r : Option FieldType} (h : Cond.code y c n r ∈ pw) : GoodIn pw (Cond.code y c n r :: pw) := by
  intro w hw
  rcases List.mem_cons.mp hw with rfl | hw
  · exact ⟨h, pw_good h⟩
  · exact ⟨hw, pw_good hw⟩
theorem gP {ws a : List Cond} (ha : ∀ w ∈ a, w ∈ pw) (h : GoodIn pw ws) : GoodIn pw (a ++ ws) := by
  intro w hw
  rcases List.mem_append.mp hw with hw | hw
  · exact ⟨ha w hw, pw_good (ha w hw)⟩
  · exact h w hw
theorem gV {own C : String} {idx : Nat} {y : MethodName} {c : ByteArray} {n : Nat} {r : Option FieldType} (h1 : Cond.methodLink own idx y ∈ pw) (h2 : Cond.instanceMethod y ∈ pw) (h3 : Cond.selects C y y ∈ pw) (h4 : Cond.initialized C ∈ pw) (h : Cond.code y c n r ∈ pw) : GoodIn pw (wsV own idx C y (Cond.code y c n r :: pw)) := by
  refine gP ?_ (gI h)
  intro w hw
  simp only [List.mem_cons, List.not_mem_nil, or_false] at hw
  rcases hw with rfl | rfl | rfl | rfl
  · exact h1
  · exact h2
  · exact h3
  · exact h4
theorem gS {own : String} {idx : Nat} {y : MethodName} {c : ByteArray} {n : Nat} {r : Option FieldType} (h1 : Cond.methodLink own idx y ∈ pw) (h2 : Cond.static y ∈ pw) (h3 : Cond.initialized y.cls ∈ pw) (h : Cond.code y c n r ∈ pw) : GoodIn pw (va_wsS own idx y (Cond.code y c n r :: pw)) := by
  refine gP ?_ (gI h)
  intro w hw
  simp only [List.mem_cons, List.not_mem_nil, or_false] at hw
  rcases hw with rfl | rfl | rfl
  · exact h1
  · exact h2
  · exact h3
/-- what the tables say beyond words: the private constructors of nest mates, arrays over own classes -/
def xN (U : State) : Prop := va_Nw (.methodLinkNest RX1 33 yX3_init "MaskTouch") U ∧ va_Nw (.methodLinkNest RX1 34 yX0_init "MaskTouch") U ∧ va_Nw (.methodLinkNest RX5 43 yX3_init "MaskTouch") U ∧ va_Nw (.methodLinkNest RX6 47 yX3_init "MaskTouch") U ∧ va_Nw (.methodLinkNest RX6 54 yX2_init "MaskTouch") U ∧ va_Nw (.methodLinkNest RX2 11 yX3_init "MaskTouch") U ∧ va_AO RX3 U ∧ va_AO RX0 U ∧ va_AO RX1 U
theorem xN_X1_33 {U : State} (h : xN U) : va_Nw (.methodLinkNest RX1 33 yX3_init "MaskTouch") U := h.1
theorem xN_X1_34 {U : State} (h : xN U) : va_Nw (.methodLinkNest RX1 34 yX0_init "MaskTouch") U := h.2.1
theorem xN_X5_43 {U : State} (h : xN U) : va_Nw (.methodLinkNest RX5 43 yX3_init "MaskTouch") U := h.2.2.1
theorem xN_X6_47 {U : State} (h : xN U) : va_Nw (.methodLinkNest RX6 47 yX3_init "MaskTouch") U := h.2.2.2.1
theorem xN_X6_54 {U : State} (h : xN U) : va_Nw (.methodLinkNest RX6 54 yX2_init "MaskTouch") U := h.2.2.2.2.1
theorem xN_X2_11 {U : State} (h : xN U) : va_Nw (.methodLinkNest RX2 11 yX3_init "MaskTouch") U := h.2.2.2.2.2.1
theorem xN_aoX3 {U : State} (h : xN U) : va_AO RX3 U := h.2.2.2.2.2.2.1
theorem xN_aoX0 {U : State} (h : xN U) : va_AO RX0 U := h.2.2.2.2.2.2.2.1
theorem xN_aoX1 {U : State} (h : xN U) : va_AO RX1 U := h.2.2.2.2.2.2.2.2
theorem xN_warm {s U : State} (hW : s.WarmedH U.vm) (h : xN s) : xN U := ⟨va_Nw.warmM hW (h.1), va_Nw.warmM hW (h.2.1), va_Nw.warmM hW (h.2.2.1), va_Nw.warmM hW (h.2.2.2.1), va_Nw.warmM hW (h.2.2.2.2.1), va_Nw.warmM hW (h.2.2.2.2.2.1), va_AO.moved hW.alike (h.2.2.2.2.2.2.1), va_AO.moved hW.alike (h.2.2.2.2.2.2.2.1), va_AO.moved hW.alike (h.2.2.2.2.2.2.2.2)⟩
theorem xN_call {U : State} {g : JFrame} {mk : MethodId} {a : Array Value} (h : xN U) : xN (U.calling g mk a) := ⟨va_Nw.same (u := U) (U := U.calling g mk a) rfl rfl (h.1), va_Nw.same (u := U) (U := U.calling g mk a) rfl rfl (h.2.1), va_Nw.same (u := U) (U := U.calling g mk a) rfl rfl (h.2.2.1), va_Nw.same (u := U) (U := U.calling g mk a) rfl rfl (h.2.2.2.1), va_Nw.same (u := U) (U := U.calling g mk a) rfl rfl (h.2.2.2.2.1), va_Nw.same (u := U) (U := U.calling g mk a) rfl rfl (h.2.2.2.2.2.1), va_AO.moved (u := U) (U := U.calling g mk a) (Vm.Alike.refl U.vm) (h.2.2.2.2.2.2.1), va_AO.moved (u := U) (U := U.calling g mk a) (Vm.Alike.refl U.vm) (h.2.2.2.2.2.2.2.1), va_AO.moved (u := U) (U := U.calling g mk a) (Vm.Alike.refl U.vm) (h.2.2.2.2.2.2.2.2)⟩
set_option maxRecDepth 100000 in
theorem xN_of {a : Array Value} {s : State} (hts : ∀ w ∈ lw_tbl, w.before a s = true) : xN s := ⟨va_Nw.of rfl (hts (.methodLinkNest RX1 33 yX3_init "MaskTouch") (List.mem_of_getElem? (i := 112) (by decide +kernel))), va_Nw.of rfl (hts (.methodLinkNest RX1 34 yX0_init "MaskTouch") (List.mem_of_getElem? (i := 165) (by decide +kernel))), va_Nw.of rfl (hts (.methodLinkNest RX5 43 yX3_init "MaskTouch") (List.mem_of_getElem? (i := 273) (by decide +kernel))), va_Nw.of rfl (hts (.methodLinkNest RX6 47 yX3_init "MaskTouch") (List.mem_of_getElem? (i := 308) (by decide +kernel))), va_Nw.of rfl (hts (.methodLinkNest RX6 54 yX2_init "MaskTouch") (List.mem_of_getElem? (i := 311) (by decide +kernel))), va_Nw.of rfl (hts (.methodLinkNest RX2 11 yX3_init "MaskTouch") (List.mem_of_getElem? (i := 316) (by decide +kernel))), va_AO.of (hts (.arrayOver (.object RX3)) (List.mem_of_getElem? (i := 108) (by decide +kernel))), va_AO.of (hts (.arrayOver (.object RX0)) (List.mem_of_getElem? (i := 110) (by decide +kernel))), va_AO.of (hts (.arrayOver (.object RX1)) (List.mem_of_getElem? (i := 348) (by decide +kernel)))⟩
/-- a method's start: its cells, the classes, the tables -/
def pc (D : va_G) (av : List Value) (sz : Nat) (ws : va_W) (tys : List (ClassId × FieldType)) : Array Value → State → Prop := va_Pc av (fun U => U.heap.size = sz ∧ va_P D vwCl ws U.heap ∧ va_K D vwCl tys U ∧ va_D (fun _ => True) ws ∧ xN U)
theorem pc_blind {D : va_G} {av : List Value} {sz : Nat} {ws : va_W} {tys : List (ClassId × FieldType)} : FrameBlind (pc D av sz ws tys) := fun a U g mk q => by
  obtain ⟨q0, q1, qP, qK, qD, qN⟩ := q
  exact ⟨q0, q1, qP, va_K.moved (u := U) (U := U.calling g mk a) (Vm.Alike.refl U.vm) qK, qD, xN_call qN⟩
theorem pc_S {s : State} {H : Heap} {D : va_G} {As : List Value} {ws : va_W} {tys : List (ClassId × FieldType)} {A : Nat → Prop} (hP : va_P D vwCl ws H) (hD : va_D A ws) (hK : va_K D vwCl tys s) (hN : xN s) : PreS s H (pc D As H.size ws tys) As :=
  ⟨pc_blind, fun U hU hW => ⟨rfl, by rw [hU], by rw [hU]; exact hP, va_K.moved hW.alike hK, hD.weaken (fun _ _ _ _ => trivial), xN_warm hW hN⟩⟩
theorem pc_V {s : State} {H : Heap} {D : va_G} {b : Addr} {C : String} {As : List Value} {ws : va_W} {tys : List (ClassId × FieldType)} {A : Nat → Prop} (hP : va_P D vwCl ws H) (hD : va_D A ws) (hK : va_K D vwCl tys s) (hN : xN s) (hr : ∃ cell : Cell, H[b]? = some cell ∧ cell.vm.isStatics = false ∧ s.vm.findClass C = some cell.cls) : PreV s H C b (pc D (.ref b :: As) H.size ws tys) As :=
  ⟨pc_blind, hr, (pc_S (As := .ref b :: As) hP hD hK hN).2⟩
/-- a world behind a method -/
def wB (D : va_G) (ws : va_W) (tys : List (ClassId × FieldType)) (A : Nat → Prop) (t : State) : Prop := va_P D vwCl ws t.heap ∧ va_K D vwCl tys t ∧ va_D A ws
theorem va_P0 {D : va_G} {cl : List vw_C} {H : Heap} : va_P D cl [] H := fun k q h => by simp at h
theorem va_D0 {A : Nat → Prop} : va_D A [] := ⟨fun i j p q h => by simp at h, fun k q h => by simp at h⟩
theorem in_d {i : Int32} {n : Nat} (h : ¬ (i < 0 ∨ n ≤ i.toNatClampNeg)) : vp_in i n := h
section RO
variable {p : Program} {l : Launch} {e : Env} {R : Room} {s : State} {m : MethodId} {args : Array Value} {below : List Frame} {meth : Method} {c : Code} {H : Heap} {locs : List Loc} {cells slots : Nat} {Q : State → Prop}
variable {pc : Nat} {ls : Array Slot} {rest st0 : List Value} {a : Array Value} {A0 : Nat → Prop} {H0 : Heap} {D : va_G} {cl : List vw_C} {ws : va_W}
/-- calls that change nothing -/
theorem ro_i {post : Int32 → Unit → Prop} (hr : va_Run p l e R s m args below meth c H locs cells slots 0 0 (F0 m pc ls st0) rest (va_Qi post (fun _ _ => True) (fun _ => False) a) (fun _ => False)) (hS : va_S A0 H0 H locs) (hP : va_P D cl ws H)
    (kk : ∀ (r : Int32) (H1 : Heap) (locs1 : List Loc), post r () → va_P D cl ws H1 → va_S A0 H0 H1 locs1 → W p l e R s m args below meth c H1 locs1 cells slots Q (F0 m (pc + 3) ls (.int r :: rest))) : W p l e R s m args below meth c H locs cells slots Q (F0 m pc ls st0) :=
  va_calli hr hS (fun q _ h => h.elim) (fun q h => h.elim) (fun r u t H1 locs1 ht hvm hw hB hz1 hk1 hS => kk r H1 locs1 hw (hP.kept (fun k q hk => hk1 q.1 ((hP k q hk).lt) (fun h => h))) hS)
theorem ro_l {post : Int64 → Unit → Prop} (hr : va_Run p l e R s m args below meth c H locs cells slots 0 0 (F0 m pc ls st0) rest (va_Ql post (fun _ _ => True) (fun _ => False) a) (fun _ => False)) (hS : va_S A0 H0 H locs) (hP : va_P D cl ws H)
    (kk : ∀ (r : Int64) (H1 : Heap) (locs1 : List Loc), post r () → va_P D cl ws H1 → va_S A0 H0 H1 locs1 → W p l e R s m args below meth c H1 locs1 cells slots Q (F0 m (pc + 3) ls (.long r :: rest))) : W p l e R s m args below meth c H locs cells slots Q (F0 m pc ls st0) :=
  va_calll hr hS (fun q _ h => h.elim) (fun q h => h.elim) (fun r u t H1 locs1 ht hvm hw hB hz1 hk1 hS => kk r H1 locs1 hw (hP.kept (fun k q hk => hk1 q.1 ((hP k q hk).lt) (fun h => h))) hS)
theorem ro_v {post : Unit → Prop} (hr : va_Run p l e R s m args below meth c H locs cells slots 0 0 (F0 m pc ls st0) rest (va_Qv post (fun _ _ => True) (fun _ => False) a) (fun _ => False)) (hS : va_S A0 H0 H locs) (hP : va_P D cl ws H)
    (kk : ∀ (H1 : Heap) (locs1 : List Loc), va_P D cl ws H1 → va_S A0 H0 H1 locs1 → W p l e R s m args below meth c H1 locs1 cells slots Q (F0 m (pc + 3) ls rest)) : W p l e R s m args below meth c H locs cells slots Q (F0 m pc ls st0) :=
  va_callv hr hS (fun q _ h => h.elim) (fun q h => h.elim) (fun u t H1 locs1 ht hvm hw hB hz1 hk1 hS => kk H1 locs1 (hP.kept (fun k q hk => hk1 q.1 ((hP k q hk).lt) (fun h => h))) hS)
end RO
set_option maxRecDepth 100000 in
theorem inX0 : ∀ w ∈ u_ws RX0 TX0 8, w ∈ pw := fun w h => List.mem_filter.mpr ⟨(mem_r (big := lw_tbl) (u_ws RX0 TX0 8) [196, 198, 200, 202, 204, 206, 208, 210] (by decide +kernel) w h), List.all_eq_true.mp (show (u_ws RX0 TX0 8).all goodWord = true by decide +kernel) w h⟩
set_option maxRecDepth 100000 in
theorem inX1 : ∀ w ∈ u_ws RX1 TX1 5, w ∈ pw := fun w h => List.mem_filter.mpr ⟨(mem_r (big := lw_tbl) (u_ws RX1 TX1 5) [230, 232, 234, 236, 238] (by decide +kernel) w h), List.all_eq_true.mp (show (u_ws RX1 TX1 5).all goodWord = true by decide +kernel) w h⟩
set_option maxRecDepth 100000 in
theorem inX2 : ∀ w ∈ u_ws RX2 TX2 8, w ∈ pw := fun w h => List.mem_filter.mpr ⟨(mem_r (big := lw_tbl) (u_ws RX2 TX2 8) [330, 332, 334, 336, 338, 340, 342, 344] (by decide +kernel) w h), List.all_eq_true.mp (show (u_ws RX2 TX2 8).all goodWord = true by decide +kernel) w h⟩
set_option maxRecDepth 100000 in
theorem inX3 : ∀ w ∈ u_ws RX3 TX3 8, w ∈ pw := fun w h => List.mem_filter.mpr ⟨(mem_r (big := lw_tbl) (u_ws RX3 TX3 8) [145, 147, 149, 151, 153, 155, 157, 159] (by decide +kernel) w h), List.all_eq_true.mp (show (u_ws RX3 TX3 8).all goodWord = true by decide +kernel) w h⟩
set_option maxRecDepth 100000 in
theorem inX4 : ∀ w ∈ u_ws RX4 TX4 6, w ∈ pw := fun w h => List.mem_filter.mpr ⟨(mem_r (big := lw_tbl) (u_ws RX4 TX4 6) [253, 255, 257, 259, 261, 263] (by decide +kernel) w h), List.all_eq_true.mp (show (u_ws RX4 TX4 6).all goodWord = true by decide +kernel) w h⟩
set_option maxRecDepth 100000 in
theorem inX5 : ∀ w ∈ u_ws RX5 TX5 9, w ∈ pw := fun w h => List.mem_filter.mpr ⟨(mem_r (big := lw_tbl) (u_ws RX5 TX5 9) [288, 290, 292, 294, 296, 298, 300, 302, 304] (by decide +kernel) w h), List.all_eq_true.mp (show (u_ws RX5 TX5 9).all goodWord = true by decide +kernel) w h⟩
set_option maxRecDepth 100000 in
theorem inX6 : ∀ w ∈ u_ws RX6 TX6 12, w ∈ pw := fun w h => List.mem_filter.mpr ⟨(mem_r (big := lw_tbl) (u_ws RX6 TX6 12) [361, 363, 365, 367, 369, 371, 373, 375, 377, 379, 381, 383] (by decide +kernel) w h), List.all_eq_true.mp (show (u_ws RX6 TX6 12).all goodWord = true by decide +kernel) w h⟩
set_option maxRecDepth 100000 in
theorem inX7 : ∀ w ∈ u_ws RX7 TX7 26, w ∈ pw := fun w h => List.mem_filter.mpr ⟨(mem_r (big := lw_tbl) (u_ws RX7 TX7 26) [1141, 1143, 1145, 1147, 1149, 1151, 1153, 1155, 1157, 1159, 1161, 1163, 1165, 1167, 1169, 1171, 1173, 1175, 1177, 1179, 1181, 1183, 1185, 1187, 1189, 1191] (by decide +kernel) w h), List.all_eq_true.mp (show (u_ws RX7 TX7 26).all goodWord = true by decide +kernel) w h⟩
end
section
def yX6_isBody : MethodName := ⟨RX6, "isBody", "(I)Z"⟩
abbrev cX6_isBody : ByteArray := prog_1_method_61_code
abbrev cX6_areTwoBodies : ByteArray := prog_1_method_62_code
abbrev cX6_isFrom0To : ByteArray := prog_1_method_63_code
abbrev cX6_isMask : ByteArray := prog_1_method_60_code
def yX6_areTwoBodies : MethodName := ⟨RX6, "areTwoBodies", "(II)Z"⟩
def yX6_isFrom0To : MethodName := ⟨RX6, "isFrom0To", "(II)Z"⟩
def yX6_isMask : MethodName := ⟨RX6, "isMask", "(I)Z"⟩
theorem dX6_areTwoBodies_0 : decode cX6_areTwoBodies 0 = .ok (.aload_n 0, 1) := by decide +kernel
theorem dX6_areTwoBodies_1 : decode cX6_areTwoBodies 1 = .ok (.iload_n 1, 1) := by decide +kernel
theorem dX6_areTwoBodies_2 : decode cX6_areTwoBodies 2 = .ok (.invokevirtual 86, 3) := by decide +kernel
theorem dX6_areTwoBodies_5 : decode cX6_areTwoBodies 5 = .ok (.ifCond .eq 20, 3) := by decide +kernel
theorem dX6_areTwoBodies_25 : decode cX6_areTwoBodies 25 = .ok (.iconst 0, 1) := by decide +kernel
theorem dX6_areTwoBodies_26 : decode cX6_areTwoBodies 26 = .ok (.ireturn, 1) := by decide +kernel
theorem dX6_isBody_0 : decode cX6_isBody 0 = .ok (.iload_n 1, 1) := by decide +kernel
theorem dX6_isBody_1 : decode cX6_isBody 1 = .ok (.ifCond .lt 18, 3) := by decide +kernel
theorem dX6_isBody_4 : decode cX6_isBody 4 = .ok (.iload_n 1, 1) := by decide +kernel
theorem dX6_isBody_5 : decode cX6_isBody 5 = .ok (.aload_n 0, 1) := by decide +kernel
theorem dX6_isBody_6 : decode cX6_isBody 6 = .ok (.getfield 20, 3) := by decide +kernel
theorem dX6_isBody_9 : decode cX6_isBody 9 = .ok (.getfield 83, 3) := by decide +kernel
theorem dX6_isBody_12 : decode cX6_isBody 12 = .ok (.if_icmp .ge 7, 3) := by decide +kernel
theorem dX6_isBody_19 : decode cX6_isBody 19 = .ok (.iconst 0, 1) := by decide +kernel
theorem dX6_isBody_20 : decode cX6_isBody 20 = .ok (.ireturn, 1) := by decide +kernel
theorem dX6_isFrom0To_0 : decode cX6_isFrom0To 0 = .ok (.iload_n 0, 1) := by decide +kernel
theorem dX6_isFrom0To_1 : decode cX6_isFrom0To 1 = .ok (.ifCond .lt 12, 3) := by decide +kernel
theorem dX6_isFrom0To_4 : decode cX6_isFrom0To 4 = .ok (.iload_n 0, 1) := by decide +kernel
theorem dX6_isFrom0To_5 : decode cX6_isFrom0To 5 = .ok (.iload_n 1, 1) := by decide +kernel
theorem dX6_isFrom0To_6 : decode cX6_isFrom0To 6 = .ok (.if_icmp .gt 7, 3) := by decide +kernel
theorem dX6_isFrom0To_9 : decode cX6_isFrom0To 9 = .ok (.iconst 1, 1) := by decide +kernel
theorem dX6_isFrom0To_10 : decode cX6_isFrom0To 10 = .ok (.goto 4, 3) := by decide +kernel
theorem dX6_isFrom0To_13 : decode cX6_isFrom0To 13 = .ok (.iconst 0, 1) := by decide +kernel
theorem dX6_isFrom0To_14 : decode cX6_isFrom0To 14 = .ok (.ireturn, 1) := by decide +kernel
theorem dX6_isMask_0 : decode cX6_isMask 0 = .ok (.iload_n 1, 1) := by decide +kernel
theorem dX6_isMask_1 : decode cX6_isMask 1 = .ok (.ifCond .lt 18, 3) := by decide +kernel
theorem dX6_isMask_4 : decode cX6_isMask 4 = .ok (.iload_n 1, 1) := by decide +kernel
theorem dX6_isMask_5 : decode cX6_isMask 5 = .ok (.aload_n 0, 1) := by decide +kernel
theorem dX6_isMask_6 : decode cX6_isMask 6 = .ok (.getfield 20, 3) := by decide +kernel
theorem dX6_isMask_9 : decode cX6_isMask 9 = .ok (.getfield 367, 3) := by decide +kernel
theorem dX6_isMask_12 : decode cX6_isMask 12 = .ok (.if_icmp .ge 7, 3) := by decide +kernel
theorem dX6_isMask_19 : decode cX6_isMask 19 = .ok (.iconst 0, 1) := by decide +kernel
theorem dX6_isMask_20 : decode cX6_isMask 20 = .ok (.ireturn, 1) := by decide +kernel
set_option maxRecDepth 100000 in
theorem pq2 : Cond.selects RX6 yX6_isBody yX6_isBody ∈ pw := pw_mem (i := 2) (by decide +kernel) rfl
set_option maxRecDepth 100000 in
theorem pq74 : Cond.initialized RX6 ∈ pw := pw_mem (i := 74) (by decide +kernel) rfl
set_option maxRecDepth 100000 in
theorem pq223 : Cond.fieldLink RX6 367 "MaskTouch$Field" "maskCount" "I" ∈ pw := pw_mem (i := 223) (by decide +kernel) rfl
set_option maxRecDepth 100000 in
theorem pq226 : Cond.fieldLink RX6 83 "MaskTouch$Field" "bodyCount" "I" ∈ pw := pw_mem (i := 226) (by decide +kernel) rfl
set_option maxRecDepth 100000 in
theorem pq351 : Cond.fieldLink RX6 20 "MaskTouch" "now" "LMaskTouch$Field;" ∈ pw := pw_mem (i := 351) (by decide +kernel) rfl
set_option maxRecDepth 100000 in
theorem pq636 : Cond.methodLink RX6 86 yX6_isBody ∈ pw := pw_mem (i := 636) (by decide +kernel) rfl
set_option maxRecDepth 100000 in
theorem pq638 : Cond.instanceMethod yX6_isBody ∈ pw := pw_mem (i := 638) (by decide +kernel) rfl
set_option maxRecDepth 100000 in
theorem pq639 : Cond.code yX6_isBody cX6_isBody 2 (some .boolean) ∈ pw := pw_mem (i := 639) (by rfl) rfl
set_option maxHeartbeats 4000000 in
set_option maxRecDepth 100000 in
theorem c_X6_isMask (l : Launch) (dC : Nat → ClassId) (dI : Nat → Nat → Nat) (h0 tp nw dr rd sc sk fl ps sh nm nb : Nat) (sz : Nat) (p0 : Int32) : Met l yX6_isMask (.code yX6_isMask cX6_isMask 2 (some .boolean) :: pw) ({ frames := 0, cells := 0, slots := 0, locals := 0 }) (pc (dC, dI) [.ref h0, .int p0] sz [(h0, .inr (6, [.ref tp, .int 0, .ref nw, .ref dr, .ref rd, .ref sc, .ref sk, .ref fl, .ref ps, .int 0, .int 0, .ref sh])), (nw, .inr (1, [.ref nm, .ref nb, .int 0, .int 0, .int 0]))] []) (va_Qi (fun (r : Int32) (_ : Unit) => r = 0) (fun _ _ => True) (fun _ => False)) 0 0 (fun _ => False) := by
  refine Met.ofW (cc := cX6_isMask) (maxL := 2) (ret := (some .boolean)) (by decide +kernel) rfl ?_
  intro p e s m args below meth c s₁ B hml hv
  obtain ⟨rfl, hsz, hP, hK, hD0, hN⟩ := hv
  have hx := B.exec
  have hb := B.bytes
  have hr := B.returns
  have hts := fun w (h : w ∈ pw) => atoms_spec (ws := Cond.code yX6_isMask cX6_isMask 2 (some .boolean) :: pw) B.pre w (List.mem_cons_of_mem _ h)
  have hown : s.vm.findClass RX6 = some m.cls := findClass_of_methodNamed B.named
  have hlocks := B.notSynchronized
  subst hsz
  have hD := hD0
  obtain ⟨H, hHe⟩ : ∃ H : Heap, H = s.heap := ⟨_, rfl⟩
  have hS : va_S (fun _ => False) s.heap H [] := by rw [hHe]; exact va_S.rf
  rw [← hHe] at hP
  have hl := lv_entry ([.ref h0, .int p0]) (n := 2) (Nat.le_of_ble_eq_true rfl)
  rw [lg_entry_eq]
  generalize (lg_sl ([.ref h0, .int p0]) ++ List.replicate (2 - (lg_sl ([.ref h0, .int p0])).length) Slot.unset).toArray = ls at hl ⊢
  have hl : lv_has ls 2 [(0, .ref h0), (1, .int p0)] := hl
  rw [← hHe]
  refine lv_iload_n hx hb dX6_isMask_0 rfl (lv_at hl 1 rfl) ?_
  refine lv_if_lt (tgt := 19) hx hb dX6_isMask_1 (by decide) (fun c1 => ?_) (fun c1 => ?_)
  · refine lv_iconst (v := 0) hx hb dX6_isMask_19 (by decide +kernel) ?_
    exact W.zret (v := 0) hx hb hr (by decide +kernel) (fun t ht hW => ⟨⟨0, (), rfl, rfl, trivial⟩, hS.F ht⟩) hS.2.2 dX6_isMask_20
  · refine lv_iload_n hx hb dX6_isMask_4 rfl (lv_at hl 1 rfl) ?_
    refine lv_aload_n hx hb dX6_isMask_5 rfl (lv_at hl 0 rfl) ?_
    refine va_get (D := (dC, dI)) (ci := 6) (v := .ref nw) (C := RX6) (T := TX6) (N := 12) hx hb hts inX6 hown hK hP 0 rfl rfl 2 (by decide) (hts _ pq351) (fun _ h9 => h9) rfl dX6_isMask_6 ?_
    refine va_get (D := (dC, dI)) (ci := 1) (v := .int 0) (C := RX1) (T := TX1) (N := 5) hx hb hts inX1 hown hK hP 1 rfl rfl 2 (by decide) (hts _ pq223) (fun _ h9 => h9) rfl dX6_isMask_9 ?_
    refine lv_icmp_ge (tgt := 19) hx hb dX6_isMask_12 (by decide) (fun c2 => ?_) (fun c2 => absurd (Int32.not_lt.mp c1) c2)
    refine lv_iconst (v := 0) hx hb dX6_isMask_19 (by decide +kernel) ?_
    exact W.zret (v := 0) hx hb hr (by decide +kernel) (fun t ht hW => ⟨⟨0, (), rfl, rfl, trivial⟩, hS.F ht⟩) hS.2.2 dX6_isMask_20

set_option maxHeartbeats 4000000 in
set_option maxRecDepth 100000 in
theorem c_X6_isBody (l : Launch) (dC : Nat → ClassId) (dI : Nat → Nat → Nat) (h0 tp nw dr rd sc sk fl ps sh nm nb : Nat) (sz : Nat) (p0 : Int32) : Met l yX6_isBody (.code yX6_isBody cX6_isBody 2 (some .boolean) :: pw) ({ frames := 0, cells := 0, slots := 0, locals := 0 }) (pc (dC, dI) [.ref h0, .int p0] sz [(h0, .inr (6, [.ref tp, .int 0, .ref nw, .ref dr, .ref rd, .ref sc, .ref sk, .ref fl, .ref ps, .int 0, .int 0, .ref sh])), (nw, .inr (1, [.ref nm, .ref nb, .int 0, .int 0, .int 0]))] []) (va_Qi (fun (r : Int32) (_ : Unit) => r = 0) (fun _ _ => True) (fun _ => False)) 0 0 (fun _ => False) := by
  refine Met.ofW (cc := cX6_isBody) (maxL := 2) (ret := (some .boolean)) (by decide +kernel) rfl ?_
  intro p e s m args below meth c s₁ B hml hv
  obtain ⟨rfl, hsz, hP, hK, hD0, hN⟩ := hv
  have hx := B.exec
  have hb := B.bytes
  have hr := B.returns
  have hts := fun w (h : w ∈ pw) => atoms_spec (ws := Cond.code yX6_isBody cX6_isBody 2 (some .boolean) :: pw) B.pre w (List.mem_cons_of_mem _ h)
  have hown : s.vm.findClass RX6 = some m.cls := findClass_of_methodNamed B.named
  have hlocks := B.notSynchronized
  subst hsz
  have hD := hD0
  obtain ⟨H, hHe⟩ : ∃ H : Heap, H = s.heap := ⟨_, rfl⟩
  have hS : va_S (fun _ => False) s.heap H [] := by rw [hHe]; exact va_S.rf
  rw [← hHe] at hP
  have hl := lv_entry ([.ref h0, .int p0]) (n := 2) (Nat.le_of_ble_eq_true rfl)
  rw [lg_entry_eq]
  generalize (lg_sl ([.ref h0, .int p0]) ++ List.replicate (2 - (lg_sl ([.ref h0, .int p0])).length) Slot.unset).toArray = ls at hl ⊢
  have hl : lv_has ls 2 [(0, .ref h0), (1, .int p0)] := hl
  rw [← hHe]
  refine lv_iload_n hx hb dX6_isBody_0 rfl (lv_at hl 1 rfl) ?_
  refine lv_if_lt (tgt := 19) hx hb dX6_isBody_1 (by decide) (fun c1 => ?_) (fun c1 => ?_)
  · refine lv_iconst (v := 0) hx hb dX6_isBody_19 (by decide +kernel) ?_
    exact W.zret (v := 0) hx hb hr (by decide +kernel) (fun t ht hW => ⟨⟨0, (), rfl, rfl, trivial⟩, hS.F ht⟩) hS.2.2 dX6_isBody_20
  · refine lv_iload_n hx hb dX6_isBody_4 rfl (lv_at hl 1 rfl) ?_
    refine lv_aload_n hx hb dX6_isBody_5 rfl (lv_at hl 0 rfl) ?_
    refine va_get (D := (dC, dI)) (ci := 6) (v := .ref nw) (C := RX6) (T := TX6) (N := 12) hx hb hts inX6 hown hK hP 0 rfl rfl 2 (by decide) (hts _ pq351) (fun _ h9 => h9) rfl dX6_isBody_6 ?_
    refine va_get (D := (dC, dI)) (ci := 1) (v := .int 0) (C := RX1) (T := TX1) (N := 5) hx hb hts inX1 hown hK hP 1 rfl rfl 3 (by decide) (hts _ pq226) (fun _ h9 => h9) rfl dX6_isBody_9 ?_
    refine lv_icmp_ge (tgt := 19) hx hb dX6_isBody_12 (by decide) (fun c2 => ?_) (fun c2 => absurd (Int32.not_lt.mp c1) c2)
    refine lv_iconst (v := 0) hx hb dX6_isBody_19 (by decide +kernel) ?_
    exact W.zret (v := 0) hx hb hr (by decide +kernel) (fun t ht hW => ⟨⟨0, (), rfl, rfl, trivial⟩, hS.F ht⟩) hS.2.2 dX6_isBody_20

set_option maxHeartbeats 4000000 in
set_option maxRecDepth 100000 in
theorem c_X6_areTwoBodies (l : Launch) (dC : Nat → ClassId) (dI : Nat → Nat → Nat) (h0 tp nw dr rd sc sk fl ps sh nm nb : Nat) (sz : Nat) (p0 : Int32) (p1 : Int32) : Met l yX6_areTwoBodies (.code yX6_areTwoBodies cX6_areTwoBodies 3 (some .boolean) :: pw) ({ frames := 1, cells := 0, slots := 0, locals := 21 }) (pc (dC, dI) [.ref h0, .int p0, .int p1] sz [(h0, .inr (6, [.ref tp, .int 0, .ref nw, .ref dr, .ref rd, .ref sc, .ref sk, .ref fl, .ref ps, .int 0, .int 0, .ref sh])), (nw, .inr (1, [.ref nm, .ref nb, .int 0, .int 0, .int 0]))] []) (va_Qi (fun (r : Int32) (_ : Unit) => r = 0) (fun _ _ => True) (fun _ => False)) 0 0 (fun _ => False) := by
  refine Met.ofW (cc := cX6_areTwoBodies) (maxL := 3) (ret := (some .boolean)) (by decide +kernel) rfl ?_
  intro p e s m args below meth c s₁ B hml hv
  obtain ⟨rfl, hsz, hP, hK, hD0, hN⟩ := hv
  have hx := B.exec
  have hb := B.bytes
  have hr := B.returns
  have hts := fun w (h : w ∈ pw) => atoms_spec (ws := Cond.code yX6_areTwoBodies cX6_areTwoBodies 3 (some .boolean) :: pw) B.pre w (List.mem_cons_of_mem _ h)
  have hown : s.vm.findClass RX6 = some m.cls := findClass_of_methodNamed B.named
  have hlocks := B.notSynchronized
  subst hsz
  have hD := hD0
  obtain ⟨H, hHe⟩ : ∃ H : Heap, H = s.heap := ⟨_, rfl⟩
  have hS : va_S (fun _ => False) s.heap H [] := by rw [hHe]; exact va_S.rf
  rw [← hHe] at hP
  have hl := lv_entry ([.ref h0, .int p0, .int p1]) (n := 3) (Nat.le_of_ble_eq_true rfl)
  rw [lg_entry_eq]
  generalize (lg_sl ([.ref h0, .int p0, .int p1]) ++ List.replicate (3 - (lg_sl ([.ref h0, .int p0, .int p1])).length) Slot.unset).toArray = ls at hl ⊢
  have hl : lv_has ls 3 [(0, .ref h0), (1, .int p0), (2, .int p1)] := hl
  rw [← hHe]
  refine lv_aload_n hx hb dX6_areTwoBodies_0 rfl (lv_at hl 0 rfl) ?_
  refine lv_iload_n hx hb dX6_areTwoBodies_1 rfl (lv_at hl 1 rfl) ?_
  have hPc := hP.sub (ws' := [(h0, .inr (6, [.ref tp, .int 0, .ref nw, .ref dr, .ref rd, .ref sc, .ref sk, .ref fl, .ref ps, .int 0, .int 0, .ref sh])), (nw, .inr (1, [.ref nm, .ref nb, .int 0, .int 0, .int 0]))]) [0, 1] rfl
  have hDc := hD.sub (ws' := [(h0, .inr (6, [.ref tp, .int 0, .ref nw, .ref dr, .ref rd, .ref sc, .ref sk, .ref fl, .ref ps, .int 0, .int 0, .ref sh])), (nw, .inr (1, [.ref nm, .ref nb, .int 0, .int 0, .int 0]))]) [0, 1] (by decide) rfl
  have hKc := hK.sub (tys' := []) [] rfl
  refine ro_i (va_runV (As := [.int p0]) (rest := []) ⟨hx, hb, hml, hown, hts⟩ (c_X6_isBody l dC dI h0 tp nw dr rd sc sk fl ps sh nm nb H.size p0 ) (cwV 1 hts (gV pq636 pq638 pq2 pq74 pq639) rfl rfl rfl (by decide +kernel) ⟨(Nat.le_of_ble_eq_true rfl), (Nat.le_of_ble_eq_true rfl)⟩) (pc_V hPc hDc hKc hN (va_recv hK hP (ci := 6) (q0 := 0) rfl rfl)) rfl rfl hl.1 rfl (lv_room (Nat.le_of_ble_eq_true rfl)) dX6_areTwoBodies_2 ⟨(Nat.le_of_ble_eq_true rfl), (Nat.le_of_ble_eq_true rfl)⟩) hS hP (fun r1 H locs hr1 hP hS => ?_)
  subst hr1
  refine lv_if_eq (tgt := 25) hx hb dX6_areTwoBodies_5 (by decide) (fun c2 => ?_) (fun c2 => absurd (by decide +kernel) c2)
  refine lv_iconst (v := 0) hx hb dX6_areTwoBodies_25 (by decide +kernel) ?_
  exact W.zret (v := 0) hx hb hr (by decide +kernel) (fun t ht hW => ⟨⟨0, (), rfl, rfl, trivial⟩, hS.F ht⟩) hS.2.2 dX6_areTwoBodies_26

set_option maxHeartbeats 4000000 in
set_option maxRecDepth 100000 in
theorem c_X6_isFrom0To (l : Launch) (dC : Nat → ClassId) (dI : Nat → Nat → Nat) (sz : Nat) (p0 : Int32) (p1 : Int32) : Met l yX6_isFrom0To (.code yX6_isFrom0To cX6_isFrom0To 2 (some .boolean) :: pw) ({ frames := 0, cells := 0, slots := 0, locals := 0 }) (pc (dC, dI) [.int p0, .int p1] sz [] []) (va_Qi (fun (r : Int32) (_ : Unit) => r = if p0 < 0 ∨ p1 < p0 then 0 else 1) (fun _ _ => True) (fun _ => False)) 0 0 (fun _ => False) := by
  refine Met.ofW (cc := cX6_isFrom0To) (maxL := 2) (ret := (some .boolean)) (by decide +kernel) rfl ?_
  intro p e s m args below meth c s₁ B hml hv
  obtain ⟨rfl, hsz, hP, hK, hD0, hN⟩ := hv
  have hx := B.exec
  have hb := B.bytes
  have hr := B.returns
  have hts := fun w (h : w ∈ pw) => atoms_spec (ws := Cond.code yX6_isFrom0To cX6_isFrom0To 2 (some .boolean) :: pw) B.pre w (List.mem_cons_of_mem _ h)
  have hown : s.vm.findClass RX6 = some m.cls := findClass_of_methodNamed B.named
  have hlocks := B.notSynchronized
  subst hsz
  have hD := hD0
  obtain ⟨H, hHe⟩ : ∃ H : Heap, H = s.heap := ⟨_, rfl⟩
  have hS : va_S (fun _ => False) s.heap H [] := by rw [hHe]; exact va_S.rf
  rw [← hHe] at hP
  have hl := lv_entry ([.int p0, .int p1]) (n := 2) (Nat.le_of_ble_eq_true rfl)
  rw [lg_entry_eq]
  generalize (lg_sl ([.int p0, .int p1]) ++ List.replicate (2 - (lg_sl ([.int p0, .int p1])).length) Slot.unset).toArray = ls at hl ⊢
  have hl : lv_has ls 2 [(0, .int p0), (1, .int p1)] := hl
  rw [← hHe]
  refine lv_iload_n hx hb dX6_isFrom0To_0 rfl (lv_at hl 0 rfl) ?_
  refine lv_if_lt (tgt := 13) hx hb dX6_isFrom0To_1 (by decide) (fun c1 => ?_) (fun c1 => ?_)
  · refine lv_iconst (v := 0) hx hb dX6_isFrom0To_13 (by decide +kernel) ?_
    exact W.zret (v := 0) hx hb hr (by decide +kernel) (fun t ht hW => ⟨⟨0, (), rfl, by simp [c1], trivial⟩, hS.F ht⟩) hS.2.2 dX6_isFrom0To_14
  · refine lv_iload_n hx hb dX6_isFrom0To_4 rfl (lv_at hl 0 rfl) ?_
    refine lv_iload_n hx hb dX6_isFrom0To_5 rfl (lv_at hl 1 rfl) ?_
    refine lv_icmp_gt (tgt := 13) hx hb dX6_isFrom0To_6 (by decide) (fun c2 => ?_) (fun c2 => ?_)
    · refine lv_iconst (v := 0) hx hb dX6_isFrom0To_13 (by decide +kernel) ?_
      exact W.zret (v := 0) hx hb hr (by decide +kernel) (fun t ht hW => ⟨⟨0, (), rfl, by simp [c1, c2], trivial⟩, hS.F ht⟩) hS.2.2 dX6_isFrom0To_14
    · refine lv_iconst (v := 1) hx hb dX6_isFrom0To_9 (by decide +kernel) ?_
      refine lv_goto (tgt := 14) hx hb dX6_isFrom0To_10 (by decide) ?_
      exact W.zret (v := 1) hx hb hr (by decide +kernel) (fun t ht hW => ⟨⟨1, (), rfl, by simp [c1, c2], trivial⟩, hS.F ht⟩) hS.2.2 dX6_isFrom0To_14
end
