section
-- ===== PART A: goes FIRST, ahead of the names: the tables' words, and 'selects' of the private methods out of them =====
/-- a private method of a class that the tables say can be made, by its rows of tables_1 -/
def lw_okq (q : MethodName × Nat) : Prop := (q.1.cls ≠ "java/lang/invoke/MethodHandle" ∧ q.1.cls ≠ "java/lang/invoke/VarHandle") ∧ Cond.instantiable q.1.cls q.2 ∈ tables_1 ∧ Cond.privateMethod q.1 ∈ tables_1 ∧ Cond.instanceMethod q.1 ∈ tables_1
theorem lw_p0 : lw_okq (⟨"MaskTouch", "tapeNumber", "(I)V"⟩, 12) := ⟨⟨by decide +kernel, by decide +kernel⟩, List.mem_of_getElem? (i := 21) (by decide +kernel), List.mem_of_getElem? (i := 318) (by decide +kernel), List.mem_of_getElem? (i := 319) (by decide +kernel)⟩
theorem lw_p1 : lw_okq (⟨"MaskTouch", "replaceBy", "(LMaskTouch$Field;)V"⟩, 12) := ⟨⟨by decide +kernel, by decide +kernel⟩, List.mem_of_getElem? (i := 21) (by decide +kernel), List.mem_of_getElem? (i := 513) (by decide +kernel), List.mem_of_getElem? (i := 514) (by decide +kernel)⟩
theorem lw_p2 : lw_okq (⟨"MaskTouch", "isBody", "(I)Z"⟩, 12) := ⟨⟨by decide +kernel, by decide +kernel⟩, List.mem_of_getElem? (i := 21) (by decide +kernel), List.mem_of_getElem? (i := 564) (by decide +kernel), List.mem_of_getElem? (i := 565) (by decide +kernel)⟩
theorem lw_p3 : lw_okq (⟨"MaskTouch", "remember", "()V"⟩, 12) := ⟨⟨by decide +kernel, by decide +kernel⟩, List.mem_of_getElem? (i := 21) (by decide +kernel), List.mem_of_getElem? (i := 571) (by decide +kernel), List.mem_of_getElem? (i := 572) (by decide +kernel)⟩
theorem lw_p4 : lw_okq (⟨"MaskTouch", "isMask", "(I)Z"⟩, 12) := ⟨⟨by decide +kernel, by decide +kernel⟩, List.mem_of_getElem? (i := 21) (by decide +kernel), List.mem_of_getElem? (i := 594) (by decide +kernel), List.mem_of_getElem? (i := 595) (by decide +kernel)⟩
theorem lw_p5 : lw_okq (⟨"MaskTouch", "actBySketch", "(I)V"⟩, 12) := ⟨⟨by decide +kernel, by decide +kernel⟩, List.mem_of_getElem? (i := 21) (by decide +kernel), List.mem_of_getElem? (i := 615) (by decide +kernel), List.mem_of_getElem? (i := 616) (by decide +kernel)⟩
theorem lw_p6 : lw_okq (⟨"MaskTouch", "stopsInTick", "(I)Z"⟩, 12) := ⟨⟨by decide +kernel, by decide +kernel⟩, List.mem_of_getElem? (i := 21) (by decide +kernel), List.mem_of_getElem? (i := 757) (by decide +kernel), List.mem_of_getElem? (i := 758) (by decide +kernel)⟩
theorem lw_p7 : lw_okq (⟨"MaskTouch", "areTwoBodies", "(II)Z"⟩, 12) := ⟨⟨by decide +kernel, by decide +kernel⟩, List.mem_of_getElem? (i := 21) (by decide +kernel), List.mem_of_getElem? (i := 898) (by decide +kernel), List.mem_of_getElem? (i := 899) (by decide +kernel)⟩
theorem lw_p8 : lw_okq (⟨"MaskTouch", "passesSieve", "(III)Z"⟩, 12) := ⟨⟨by decide +kernel, by decide +kernel⟩, List.mem_of_getElem? (i := 21) (by decide +kernel), List.mem_of_getElem? (i := 930) (by decide +kernel), List.mem_of_getElem? (i := 931) (by decide +kernel)⟩
theorem lw_p9 : lw_okq (⟨"MaskTouchModel", "puts", "(I)V"⟩, 26) := ⟨⟨by decide +kernel, by decide +kernel⟩, List.mem_of_getElem? (i := 1037) (by decide +kernel), List.mem_of_getElem? (i := 1127) (by decide +kernel), List.mem_of_getElem? (i := 1128) (by decide +kernel)⟩
theorem lw_p10 : lw_okq (⟨"MaskTouchModel", "next", "()I"⟩, 26) := ⟨⟨by decide +kernel, by decide +kernel⟩, List.mem_of_getElem? (i := 1037) (by decide +kernel), List.mem_of_getElem? (i := 1139) (by decide +kernel), List.mem_of_getElem? (i := 1140) (by decide +kernel)⟩
theorem lw_p11 : lw_okq (⟨"MaskTouchModel", "sign", "()I"⟩, 26) := ⟨⟨by decide +kernel, by decide +kernel⟩, List.mem_of_getElem? (i := 1037) (by decide +kernel), List.mem_of_getElem? (i := 1143) (by decide +kernel), List.mem_of_getElem? (i := 1144) (by decide +kernel)⟩
theorem lw_p12 : lw_okq (⟨"MaskTouchModel", "isRight", "()Z"⟩, 26) := ⟨⟨by decide +kernel, by decide +kernel⟩, List.mem_of_getElem? (i := 1037) (by decide +kernel), List.mem_of_getElem? (i := 1147) (by decide +kernel), List.mem_of_getElem? (i := 1148) (by decide +kernel)⟩
theorem lw_p13 : lw_okq (⟨"MaskTouchModel", "readsPart", "()V"⟩, 26) := ⟨⟨by decide +kernel, by decide +kernel⟩, List.mem_of_getElem? (i := 1037) (by decide +kernel), List.mem_of_getElem? (i := 1151) (by decide +kernel), List.mem_of_getElem? (i := 1152) (by decide +kernel)⟩
theorem lw_p14 : lw_okq (⟨"MaskTouchModel", "takes", "(Ljava/lang/String;)Z"⟩, 26) := ⟨⟨by decide +kernel, by decide +kernel⟩, List.mem_of_getElem? (i := 1037) (by decide +kernel), List.mem_of_getElem? (i := 1156) (by decide +kernel), List.mem_of_getElem? (i := 1157) (by decide +kernel)⟩
theorem lw_p15 : lw_okq (⟨"MaskTouchModel", "fails", "(II)V"⟩, 26) := ⟨⟨by decide +kernel, by decide +kernel⟩, List.mem_of_getElem? (i := 1037) (by decide +kernel), List.mem_of_getElem? (i := 1167) (by decide +kernel), List.mem_of_getElem? (i := 1168) (by decide +kernel)⟩
def lw_privs_1 : List (MethodName × Nat) := [(⟨"MaskTouch", "tapeNumber", "(I)V"⟩, 12), (⟨"MaskTouch", "replaceBy", "(LMaskTouch$Field;)V"⟩, 12), (⟨"MaskTouch", "isBody", "(I)Z"⟩, 12), (⟨"MaskTouch", "remember", "()V"⟩, 12), (⟨"MaskTouch", "isMask", "(I)Z"⟩, 12), (⟨"MaskTouch", "actBySketch", "(I)V"⟩, 12), (⟨"MaskTouch", "stopsInTick", "(I)Z"⟩, 12), (⟨"MaskTouch", "areTwoBodies", "(II)Z"⟩, 12), (⟨"MaskTouch", "passesSieve", "(III)Z"⟩, 12), (⟨"MaskTouchModel", "puts", "(I)V"⟩, 26), (⟨"MaskTouchModel", "next", "()I"⟩, 26), (⟨"MaskTouchModel", "sign", "()I"⟩, 26), (⟨"MaskTouchModel", "isRight", "()Z"⟩, 26), (⟨"MaskTouchModel", "readsPart", "()V"⟩, 26), (⟨"MaskTouchModel", "takes", "(Ljava/lang/String;)Z"⟩, 26), (⟨"MaskTouchModel", "fails", "(II)V"⟩, 26)]
theorem lw_r1 : ∀ q ∈ lw_privs_1, lw_okq q := List.forall_mem_cons.mpr ⟨lw_p0, List.forall_mem_cons.mpr ⟨lw_p1, List.forall_mem_cons.mpr ⟨lw_p2, List.forall_mem_cons.mpr ⟨lw_p3, List.forall_mem_cons.mpr ⟨lw_p4, List.forall_mem_cons.mpr ⟨lw_p5, List.forall_mem_cons.mpr ⟨lw_p6, List.forall_mem_cons.mpr ⟨lw_p7, List.forall_mem_cons.mpr ⟨lw_p8, List.forall_mem_cons.mpr ⟨lw_p9, List.forall_mem_cons.mpr ⟨lw_p10, List.forall_mem_cons.mpr ⟨lw_p11, List.forall_mem_cons.mpr ⟨lw_p12, List.forall_mem_cons.mpr ⟨lw_p13, List.forall_mem_cons.mpr ⟨lw_p14, List.forall_mem_cons.mpr ⟨lw_p15, fun _ h => absurd h List.not_mem_nil⟩⟩⟩⟩⟩⟩⟩⟩⟩⟩⟩⟩⟩⟩⟩⟩
theorem lw_p16 : lw_okq (⟨"MaskTouchModel", "readsForm", "()V"⟩, 26) := ⟨⟨by decide +kernel, by decide +kernel⟩, List.mem_of_getElem? (i := 1037) (by decide +kernel), List.mem_of_getElem? (i := 1171) (by decide +kernel), List.mem_of_getElem? (i := 1172) (by decide +kernel)⟩
theorem lw_p17 : lw_okq (⟨"MaskTouchModel", "readsRows", "(I)V"⟩, 26) := ⟨⟨by decide +kernel, by decide +kernel⟩, List.mem_of_getElem? (i := 1037) (by decide +kernel), List.mem_of_getElem? (i := 1178) (by decide +kernel), List.mem_of_getElem? (i := 1179) (by decide +kernel)⟩
theorem lw_p18 : lw_okq (⟨"MaskTouchModel", "number", "(II)I"⟩, 26) := ⟨⟨by decide +kernel, by decide +kernel⟩, List.mem_of_getElem? (i := 1037) (by decide +kernel), List.mem_of_getElem? (i := 1190) (by decide +kernel), List.mem_of_getElem? (i := 1191) (by decide +kernel)⟩
theorem lw_p19 : lw_okq (⟨"MaskTouchModel", "laysBox", "(IIIZ)V"⟩, 26) := ⟨⟨by decide +kernel, by decide +kernel⟩, List.mem_of_getElem? (i := 1037) (by decide +kernel), List.mem_of_getElem? (i := 1198) (by decide +kernel), List.mem_of_getElem? (i := 1199) (by decide +kernel)⟩
theorem lw_p20 : lw_okq (⟨"MaskTouchModel", "laysDisk", "(II)V"⟩, 26) := ⟨⟨by decide +kernel, by decide +kernel⟩, List.mem_of_getElem? (i := 1037) (by decide +kernel), List.mem_of_getElem? (i := 1203) (by decide +kernel), List.mem_of_getElem? (i := 1204) (by decide +kernel)⟩
theorem lw_p21 : lw_okq (⟨"MaskTouchModel", "readsBody", "()V"⟩, 26) := ⟨⟨by decide +kernel, by decide +kernel⟩, List.mem_of_getElem? (i := 1037) (by decide +kernel), List.mem_of_getElem? (i := 1208) (by decide +kernel), List.mem_of_getElem? (i := 1209) (by decide +kernel)⟩
theorem lw_p22 : lw_okq (⟨"MaskTouchModel", "signed", "(I)I"⟩, 26) := ⟨⟨by decide +kernel, by decide +kernel⟩, List.mem_of_getElem? (i := 1037) (by decide +kernel), List.mem_of_getElem? (i := 1212) (by decide +kernel), List.mem_of_getElem? (i := 1213) (by decide +kernel)⟩
theorem lw_p23 : lw_okq (⟨"MaskTouchModel", "isBody", "(I)Z"⟩, 26) := ⟨⟨by decide +kernel, by decide +kernel⟩, List.mem_of_getElem? (i := 1037) (by decide +kernel), List.mem_of_getElem? (i := 1238) (by decide +kernel), List.mem_of_getElem? (i := 1239) (by decide +kernel)⟩
theorem lw_p24 : lw_okq (⟨"MaskTouchModel", "isPlace", "(II)Z"⟩, 26) := ⟨⟨by decide +kernel, by decide +kernel⟩, List.mem_of_getElem? (i := 1037) (by decide +kernel), List.mem_of_getElem? (i := 1242) (by decide +kernel), List.mem_of_getElem? (i := 1243) (by decide +kernel)⟩
theorem lw_p25 : lw_okq (⟨"MaskTouchModel", "of", "(II)I"⟩, 26) := ⟨⟨by decide +kernel, by decide +kernel⟩, List.mem_of_getElem? (i := 1037) (by decide +kernel), List.mem_of_getElem? (i := 1248) (by decide +kernel), List.mem_of_getElem? (i := 1249) (by decide +kernel)⟩
theorem lw_p26 : lw_okq (⟨"MaskTouchModel", "keepsPast", "()V"⟩, 26) := ⟨⟨by decide +kernel, by decide +kernel⟩, List.mem_of_getElem? (i := 1037) (by decide +kernel), List.mem_of_getElem? (i := 1252) (by decide +kernel), List.mem_of_getElem? (i := 1253) (by decide +kernel)⟩
theorem lw_p27 : lw_okq (⟨"MaskTouchModel", "laysAside", "()V"⟩, 26) := ⟨⟨by decide +kernel, by decide +kernel⟩, List.mem_of_getElem? (i := 1037) (by decide +kernel), List.mem_of_getElem? (i := 1256) (by decide +kernel), List.mem_of_getElem? (i := 1257) (by decide +kernel)⟩
theorem lw_p28 : lw_okq (⟨"MaskTouchModel", "remembersAside", "()V"⟩, 26) := ⟨⟨by decide +kernel, by decide +kernel⟩, List.mem_of_getElem? (i := 1037) (by decide +kernel), List.mem_of_getElem? (i := 1260) (by decide +kernel), List.mem_of_getElem? (i := 1261) (by decide +kernel)⟩
theorem lw_p29 : lw_okq (⟨"MaskTouchModel", "sets", "(III)V"⟩, 26) := ⟨⟨by decide +kernel, by decide +kernel⟩, List.mem_of_getElem? (i := 1037) (by decide +kernel), List.mem_of_getElem? (i := 1264) (by decide +kernel), List.mem_of_getElem? (i := 1265) (by decide +kernel)⟩
theorem lw_p30 : lw_okq (⟨"MaskTouchModel", "two", "(IIII)I"⟩, 26) := ⟨⟨by decide +kernel, by decide +kernel⟩, List.mem_of_getElem? (i := 1037) (by decide +kernel), List.mem_of_getElem? (i := 1278) (by decide +kernel), List.mem_of_getElem? (i := 1279) (by decide +kernel)⟩
theorem lw_p31 : lw_okq (⟨"MaskTouchModel", "isMask", "(I)Z"⟩, 26) := ⟨⟨by decide +kernel, by decide +kernel⟩, List.mem_of_getElem? (i := 1037) (by decide +kernel), List.mem_of_getElem? (i := 1292) (by decide +kernel), List.mem_of_getElem? (i := 1293) (by decide +kernel)⟩
def lw_privs_2 : List (MethodName × Nat) := [(⟨"MaskTouchModel", "readsForm", "()V"⟩, 26), (⟨"MaskTouchModel", "readsRows", "(I)V"⟩, 26), (⟨"MaskTouchModel", "number", "(II)I"⟩, 26), (⟨"MaskTouchModel", "laysBox", "(IIIZ)V"⟩, 26), (⟨"MaskTouchModel", "laysDisk", "(II)V"⟩, 26), (⟨"MaskTouchModel", "readsBody", "()V"⟩, 26), (⟨"MaskTouchModel", "signed", "(I)I"⟩, 26), (⟨"MaskTouchModel", "isBody", "(I)Z"⟩, 26), (⟨"MaskTouchModel", "isPlace", "(II)Z"⟩, 26), (⟨"MaskTouchModel", "of", "(II)I"⟩, 26), (⟨"MaskTouchModel", "keepsPast", "()V"⟩, 26), (⟨"MaskTouchModel", "laysAside", "()V"⟩, 26), (⟨"MaskTouchModel", "remembersAside", "()V"⟩, 26), (⟨"MaskTouchModel", "sets", "(III)V"⟩, 26), (⟨"MaskTouchModel", "two", "(IIII)I"⟩, 26), (⟨"MaskTouchModel", "isMask", "(I)Z"⟩, 26)]
theorem lw_r2 : ∀ q ∈ lw_privs_2, lw_okq q := List.forall_mem_cons.mpr ⟨lw_p16, List.forall_mem_cons.mpr ⟨lw_p17, List.forall_mem_cons.mpr ⟨lw_p18, List.forall_mem_cons.mpr ⟨lw_p19, List.forall_mem_cons.mpr ⟨lw_p20, List.forall_mem_cons.mpr ⟨lw_p21, List.forall_mem_cons.mpr ⟨lw_p22, List.forall_mem_cons.mpr ⟨lw_p23, List.forall_mem_cons.mpr ⟨lw_p24, List.forall_mem_cons.mpr ⟨lw_p25, List.forall_mem_cons.mpr ⟨lw_p26, List.forall_mem_cons.mpr ⟨lw_p27, List.forall_mem_cons.mpr ⟨lw_p28, List.forall_mem_cons.mpr ⟨lw_p29, List.forall_mem_cons.mpr ⟨lw_p30, List.forall_mem_cons.mpr ⟨lw_p31, fun _ h => absurd h List.not_mem_nil⟩⟩⟩⟩⟩⟩⟩⟩⟩⟩⟩⟩⟩⟩⟩⟩
theorem lw_p32 : lw_okq (⟨"MaskTouchModel", "wide", "(I)I"⟩, 26) := ⟨⟨by decide +kernel, by decide +kernel⟩, List.mem_of_getElem? (i := 1037) (by decide +kernel), List.mem_of_getElem? (i := 1296) (by decide +kernel), List.mem_of_getElem? (i := 1297) (by decide +kernel)⟩
theorem lw_p33 : lw_okq (⟨"MaskTouchModel", "high", "(I)I"⟩, 26) := ⟨⟨by decide +kernel, by decide +kernel⟩, List.mem_of_getElem? (i := 1037) (by decide +kernel), List.mem_of_getElem? (i := 1300) (by decide +kernel), List.mem_of_getElem? (i := 1301) (by decide +kernel)⟩
theorem lw_p34 : lw_okq (⟨"MaskTouchModel", "has", "(III)Z"⟩, 26) := ⟨⟨by decide +kernel, by decide +kernel⟩, List.mem_of_getElem? (i := 1037) (by decide +kernel), List.mem_of_getElem? (i := 1304) (by decide +kernel), List.mem_of_getElem? (i := 1305) (by decide +kernel)⟩
theorem lw_p35 : lw_okq (⟨"MaskTouchModel", "changes", "(IZ)I"⟩, 26) := ⟨⟨by decide +kernel, by decide +kernel⟩, List.mem_of_getElem? (i := 1037) (by decide +kernel), List.mem_of_getElem? (i := 1315) (by decide +kernel), List.mem_of_getElem? (i := 1316) (by decide +kernel)⟩
theorem lw_p36 : lw_okq (⟨"MaskTouchModel", "clearsMade", "()V"⟩, 26) := ⟨⟨by decide +kernel, by decide +kernel⟩, List.mem_of_getElem? (i := 1037) (by decide +kernel), List.mem_of_getElem? (i := 1319) (by decide +kernel), List.mem_of_getElem? (i := 1320) (by decide +kernel)⟩
theorem lw_p37 : lw_okq (⟨"MaskTouchModel", "around", "(III)I"⟩, 26) := ⟨⟨by decide +kernel, by decide +kernel⟩, List.mem_of_getElem? (i := 1037) (by decide +kernel), List.mem_of_getElem? (i := 1323) (by decide +kernel), List.mem_of_getElem? (i := 1324) (by decide +kernel)⟩
theorem lw_p38 : lw_okq (⟨"MaskTouchModel", "takesMade", "(I)V"⟩, 26) := ⟨⟨by decide +kernel, by decide +kernel⟩, List.mem_of_getElem? (i := 1037) (by decide +kernel), List.mem_of_getElem? (i := 1327) (by decide +kernel), List.mem_of_getElem? (i := 1328) (by decide +kernel)⟩
theorem lw_p39 : lw_okq (⟨"MaskTouchModel", "dotsOf", "(I)I"⟩, 26) := ⟨⟨by decide +kernel, by decide +kernel⟩, List.mem_of_getElem? (i := 1037) (by decide +kernel), List.mem_of_getElem? (i := 1341) (by decide +kernel), List.mem_of_getElem? (i := 1342) (by decide +kernel)⟩
theorem lw_p40 : lw_okq (⟨"MaskTouchModel", "laysAll", "()V"⟩, 26) := ⟨⟨by decide +kernel, by decide +kernel⟩, List.mem_of_getElem? (i := 1037) (by decide +kernel), List.mem_of_getElem? (i := 1355) (by decide +kernel), List.mem_of_getElem? (i := 1356) (by decide +kernel)⟩
theorem lw_p41 : lw_okq (⟨"MaskTouchModel", "maskOf", "(I)I"⟩, 26) := ⟨⟨by decide +kernel, by decide +kernel⟩, List.mem_of_getElem? (i := 1037) (by decide +kernel), List.mem_of_getElem? (i := 1359) (by decide +kernel), List.mem_of_getElem? (i := 1360) (by decide +kernel)⟩
theorem lw_p42 : lw_okq (⟨"MaskTouchModel", "slides", "(III)I"⟩, 26) := ⟨⟨by decide +kernel, by decide +kernel⟩, List.mem_of_getElem? (i := 1037) (by decide +kernel), List.mem_of_getElem? (i := 1363) (by decide +kernel), List.mem_of_getElem? (i := 1364) (by decide +kernel)⟩
theorem lw_p43 : lw_okq (⟨"MaskTouchModel", "touchingOf", "(I)I"⟩, 26) := ⟨⟨by decide +kernel, by decide +kernel⟩, List.mem_of_getElem? (i := 1037) (by decide +kernel), List.mem_of_getElem? (i := 1372) (by decide +kernel), List.mem_of_getElem? (i := 1373) (by decide +kernel)⟩
theorem lw_p44 : lw_okq (⟨"MaskTouchModel", "touches", "(IIII)Z"⟩, 26) := ⟨⟨by decide +kernel, by decide +kernel⟩, List.mem_of_getElem? (i := 1037) (by decide +kernel), List.mem_of_getElem? (i := 1376) (by decide +kernel), List.mem_of_getElem? (i := 1377) (by decide +kernel)⟩
theorem lw_p45 : lw_okq (⟨"MaskTouchModel", "mayTouch", "(II)Z"⟩, 26) := ⟨⟨by decide +kernel, by decide +kernel⟩, List.mem_of_getElem? (i := 1037) (by decide +kernel), List.mem_of_getElem? (i := 1380) (by decide +kernel), List.mem_of_getElem? (i := 1381) (by decide +kernel)⟩
theorem lw_p46 : lw_okq (⟨"MaskTouchModel", "meets", "(IIII)Z"⟩, 26) := ⟨⟨by decide +kernel, by decide +kernel⟩, List.mem_of_getElem? (i := 1037) (by decide +kernel), List.mem_of_getElem? (i := 1384) (by decide +kernel), List.mem_of_getElem? (i := 1385) (by decide +kernel)⟩
theorem lw_p47 : lw_okq (⟨"MaskTouchModel", "overlaps", "(IIIIZ)I"⟩, 26) := ⟨⟨by decide +kernel, by decide +kernel⟩, List.mem_of_getElem? (i := 1037) (by decide +kernel), List.mem_of_getElem? (i := 1388) (by decide +kernel), List.mem_of_getElem? (i := 1389) (by decide +kernel)⟩
def lw_privs_3 : List (MethodName × Nat) := [(⟨"MaskTouchModel", "wide", "(I)I"⟩, 26), (⟨"MaskTouchModel", "high", "(I)I"⟩, 26), (⟨"MaskTouchModel", "has", "(III)Z"⟩, 26), (⟨"MaskTouchModel", "changes", "(IZ)I"⟩, 26), (⟨"MaskTouchModel", "clearsMade", "()V"⟩, 26), (⟨"MaskTouchModel", "around", "(III)I"⟩, 26), (⟨"MaskTouchModel", "takesMade", "(I)V"⟩, 26), (⟨"MaskTouchModel", "dotsOf", "(I)I"⟩, 26), (⟨"MaskTouchModel", "laysAll", "()V"⟩, 26), (⟨"MaskTouchModel", "maskOf", "(I)I"⟩, 26), (⟨"MaskTouchModel", "slides", "(III)I"⟩, 26), (⟨"MaskTouchModel", "touchingOf", "(I)I"⟩, 26), (⟨"MaskTouchModel", "touches", "(IIII)Z"⟩, 26), (⟨"MaskTouchModel", "mayTouch", "(II)Z"⟩, 26), (⟨"MaskTouchModel", "meets", "(IIII)Z"⟩, 26), (⟨"MaskTouchModel", "overlaps", "(IIIIZ)I"⟩, 26)]
theorem lw_r3 : ∀ q ∈ lw_privs_3, lw_okq q := List.forall_mem_cons.mpr ⟨lw_p32, List.forall_mem_cons.mpr ⟨lw_p33, List.forall_mem_cons.mpr ⟨lw_p34, List.forall_mem_cons.mpr ⟨lw_p35, List.forall_mem_cons.mpr ⟨lw_p36, List.forall_mem_cons.mpr ⟨lw_p37, List.forall_mem_cons.mpr ⟨lw_p38, List.forall_mem_cons.mpr ⟨lw_p39, List.forall_mem_cons.mpr ⟨lw_p40, List.forall_mem_cons.mpr ⟨lw_p41, List.forall_mem_cons.mpr ⟨lw_p42, List.forall_mem_cons.mpr ⟨lw_p43, List.forall_mem_cons.mpr ⟨lw_p44, List.forall_mem_cons.mpr ⟨lw_p45, List.forall_mem_cons.mpr ⟨lw_p46, List.forall_mem_cons.mpr ⟨lw_p47, fun _ h => absurd h List.not_mem_nil⟩⟩⟩⟩⟩⟩⟩⟩⟩⟩⟩⟩⟩⟩⟩⟩
theorem lw_p48 : lw_okq (⟨"MaskTouchModel", "goes", "(III)V"⟩, 26) := ⟨⟨by decide +kernel, by decide +kernel⟩, List.mem_of_getElem? (i := 1037) (by decide +kernel), List.mem_of_getElem? (i := 1402) (by decide +kernel), List.mem_of_getElem? (i := 1403) (by decide +kernel)⟩
theorem lw_p49 : lw_okq (⟨"MaskTouchModel", "goers", "(III)I"⟩, 26) := ⟨⟨by decide +kernel, by decide +kernel⟩, List.mem_of_getElem? (i := 1037) (by decide +kernel), List.mem_of_getElem? (i := 1410) (by decide +kernel), List.mem_of_getElem? (i := 1411) (by decide +kernel)⟩
theorem lw_p50 : lw_okq (⟨"MaskTouchModel", "isPushed", "(IIII)Z"⟩, 26) := ⟨⟨by decide +kernel, by decide +kernel⟩, List.mem_of_getElem? (i := 1037) (by decide +kernel), List.mem_of_getElem? (i := 1414) (by decide +kernel), List.mem_of_getElem? (i := 1415) (by decide +kernel)⟩
theorem lw_p51 : lw_okq (⟨"MaskTouchModel", "canGo", "(III)Z"⟩, 26) := ⟨⟨by decide +kernel, by decide +kernel⟩, List.mem_of_getElem? (i := 1037) (by decide +kernel), List.mem_of_getElem? (i := 1418) (by decide +kernel), List.mem_of_getElem? (i := 1419) (by decide +kernel)⟩
theorem lw_p52 : lw_okq (⟨"MaskTouchModel", "slidesNow", "(III)I"⟩, 26) := ⟨⟨by decide +kernel, by decide +kernel⟩, List.mem_of_getElem? (i := 1037) (by decide +kernel), List.mem_of_getElem? (i := 1426) (by decide +kernel), List.mem_of_getElem? (i := 1427) (by decide +kernel)⟩
theorem lw_p53 : lw_okq (⟨"MaskTouchModel", "reaches", "(I)Z"⟩, 26) := ⟨⟨by decide +kernel, by decide +kernel⟩, List.mem_of_getElem? (i := 1037) (by decide +kernel), List.mem_of_getElem? (i := 1434) (by decide +kernel), List.mem_of_getElem? (i := 1435) (by decide +kernel)⟩
theorem lw_p54 : lw_okq (⟨"MaskTouchModel", "leftOf", "(II)I"⟩, 26) := ⟨⟨by decide +kernel, by decide +kernel⟩, List.mem_of_getElem? (i := 1037) (by decide +kernel), List.mem_of_getElem? (i := 1438) (by decide +kernel), List.mem_of_getElem? (i := 1439) (by decide +kernel)⟩
theorem lw_p55 : lw_okq (⟨"MaskTouchModel", "aboveOf", "(II)I"⟩, 26) := ⟨⟨by decide +kernel, by decide +kernel⟩, List.mem_of_getElem? (i := 1037) (by decide +kernel), List.mem_of_getElem? (i := 1442) (by decide +kernel), List.mem_of_getElem? (i := 1443) (by decide +kernel)⟩
theorem lw_p56 : lw_okq (⟨"MaskTouchModel", "islandsOf", "(I)I"⟩, 26) := ⟨⟨by decide +kernel, by decide +kernel⟩, List.mem_of_getElem? (i := 1037) (by decide +kernel), List.mem_of_getElem? (i := 1458) (by decide +kernel), List.mem_of_getElem? (i := 1459) (by decide +kernel)⟩
theorem lw_p57 : lw_okq (⟨"MaskTouchModel", "laysIslands", "(IZ)V"⟩, 26) := ⟨⟨by decide +kernel, by decide +kernel⟩, List.mem_of_getElem? (i := 1037) (by decide +kernel), List.mem_of_getElem? (i := 1462) (by decide +kernel), List.mem_of_getElem? (i := 1463) (by decide +kernel)⟩
theorem lw_p58 : lw_okq (⟨"MaskTouchModel", "joinsIsland", "(IIIZ)V"⟩, 26) := ⟨⟨by decide +kernel, by decide +kernel⟩, List.mem_of_getElem? (i := 1037) (by decide +kernel), List.mem_of_getElem? (i := 1466) (by decide +kernel), List.mem_of_getElem? (i := 1467) (by decide +kernel)⟩
theorem lw_p59 : lw_okq (⟨"MaskTouchModel", "holesOf", "(I)I"⟩, 26) := ⟨⟨by decide +kernel, by decide +kernel⟩, List.mem_of_getElem? (i := 1037) (by decide +kernel), List.mem_of_getElem? (i := 1470) (by decide +kernel), List.mem_of_getElem? (i := 1471) (by decide +kernel)⟩
theorem lw_p60 : lw_okq (⟨"MaskTouchModel", "isOutside", "(II)Z"⟩, 26) := ⟨⟨by decide +kernel, by decide +kernel⟩, List.mem_of_getElem? (i := 1037) (by decide +kernel), List.mem_of_getElem? (i := 1474) (by decide +kernel), List.mem_of_getElem? (i := 1475) (by decide +kernel)⟩
theorem lw_p61 : lw_okq (⟨"MaskTouchModel", "edgeOf", "(I)I"⟩, 26) := ⟨⟨by decide +kernel, by decide +kernel⟩, List.mem_of_getElem? (i := 1037) (by decide +kernel), List.mem_of_getElem? (i := 1478) (by decide +kernel), List.mem_of_getElem? (i := 1479) (by decide +kernel)⟩
theorem lw_p62 : lw_okq (⟨"MaskTouchModel", "areTwo", "(II)Z"⟩, 26) := ⟨⟨by decide +kernel, by decide +kernel⟩, List.mem_of_getElem? (i := 1037) (by decide +kernel), List.mem_of_getElem? (i := 1499) (by decide +kernel), List.mem_of_getElem? (i := 1500) (by decide +kernel)⟩
theorem lw_p63 : lw_okq (⟨"MaskTouchModel", "commonBy", "(IIII)I"⟩, 26) := ⟨⟨by decide +kernel, by decide +kernel⟩, List.mem_of_getElem? (i := 1037) (by decide +kernel), List.mem_of_getElem? (i := 1503) (by decide +kernel), List.mem_of_getElem? (i := 1504) (by decide +kernel)⟩
def lw_privs_4 : List (MethodName × Nat) := [(⟨"MaskTouchModel", "goes", "(III)V"⟩, 26), (⟨"MaskTouchModel", "goers", "(III)I"⟩, 26), (⟨"MaskTouchModel", "isPushed", "(IIII)Z"⟩, 26), (⟨"MaskTouchModel", "canGo", "(III)Z"⟩, 26), (⟨"MaskTouchModel", "slidesNow", "(III)I"⟩, 26), (⟨"MaskTouchModel", "reaches", "(I)Z"⟩, 26), (⟨"MaskTouchModel", "leftOf", "(II)I"⟩, 26), (⟨"MaskTouchModel", "aboveOf", "(II)I"⟩, 26), (⟨"MaskTouchModel", "islandsOf", "(I)I"⟩, 26), (⟨"MaskTouchModel", "laysIslands", "(IZ)V"⟩, 26), (⟨"MaskTouchModel", "joinsIsland", "(IIIZ)V"⟩, 26), (⟨"MaskTouchModel", "holesOf", "(I)I"⟩, 26), (⟨"MaskTouchModel", "isOutside", "(II)Z"⟩, 26), (⟨"MaskTouchModel", "edgeOf", "(I)I"⟩, 26), (⟨"MaskTouchModel", "areTwo", "(II)Z"⟩, 26), (⟨"MaskTouchModel", "commonBy", "(IIII)I"⟩, 26)]
theorem lw_r4 : ∀ q ∈ lw_privs_4, lw_okq q := List.forall_mem_cons.mpr ⟨lw_p48, List.forall_mem_cons.mpr ⟨lw_p49, List.forall_mem_cons.mpr ⟨lw_p50, List.forall_mem_cons.mpr ⟨lw_p51, List.forall_mem_cons.mpr ⟨lw_p52, List.forall_mem_cons.mpr ⟨lw_p53, List.forall_mem_cons.mpr ⟨lw_p54, List.forall_mem_cons.mpr ⟨lw_p55, List.forall_mem_cons.mpr ⟨lw_p56, List.forall_mem_cons.mpr ⟨lw_p57, List.forall_mem_cons.mpr ⟨lw_p58, List.forall_mem_cons.mpr ⟨lw_p59, List.forall_mem_cons.mpr ⟨lw_p60, List.forall_mem_cons.mpr ⟨lw_p61, List.forall_mem_cons.mpr ⟨lw_p62, List.forall_mem_cons.mpr ⟨lw_p63, fun _ h => absurd h List.not_mem_nil⟩⟩⟩⟩⟩⟩⟩⟩⟩⟩⟩⟩⟩⟩⟩⟩
theorem lw_p64 : lw_okq (⟨"MaskTouchModel", "lies", "(III)Z"⟩, 26) := ⟨⟨by decide +kernel, by decide +kernel⟩, List.mem_of_getElem? (i := 1037) (by decide +kernel), List.mem_of_getElem? (i := 1511) (by decide +kernel), List.mem_of_getElem? (i := 1512) (by decide +kernel)⟩
theorem lw_p65 : lw_okq (⟨"MaskTouchModel", "boxesMeet", "(II)Z"⟩, 26) := ⟨⟨by decide +kernel, by decide +kernel⟩, List.mem_of_getElem? (i := 1037) (by decide +kernel), List.mem_of_getElem? (i := 1524) (by decide +kernel), List.mem_of_getElem? (i := 1525) (by decide +kernel)⟩
theorem lw_p66 : lw_okq (⟨"MaskTouchModel", "hasBox", "(I)Z"⟩, 26) := ⟨⟨by decide +kernel, by decide +kernel⟩, List.mem_of_getElem? (i := 1037) (by decide +kernel), List.mem_of_getElem? (i := 1528) (by decide +kernel), List.mem_of_getElem? (i := 1529) (by decide +kernel)⟩
theorem lw_p67 : lw_okq (⟨"MaskTouchModel", "bodiesAt", "(II)I"⟩, 26) := ⟨⟨by decide +kernel, by decide +kernel⟩, List.mem_of_getElem? (i := 1037) (by decide +kernel), List.mem_of_getElem? (i := 1540) (by decide +kernel), List.mem_of_getElem? (i := 1541) (by decide +kernel)⟩
theorem lw_p68 : lw_okq (⟨"MaskTouchModel", "masksMeet", "(IIII)Z"⟩, 26) := ⟨⟨by decide +kernel, by decide +kernel⟩, List.mem_of_getElem? (i := 1037) (by decide +kernel), List.mem_of_getElem? (i := 1590) (by decide +kernel), List.mem_of_getElem? (i := 1591) (by decide +kernel)⟩
theorem lw_p69 : lw_okq (⟨"MaskTouchModel", "areLike", "(III)Z"⟩, 26) := ⟨⟨by decide +kernel, by decide +kernel⟩, List.mem_of_getElem? (i := 1037) (by decide +kernel), List.mem_of_getElem? (i := 1598) (by decide +kernel), List.mem_of_getElem? (i := 1599) (by decide +kernel)⟩
theorem lw_p70 : lw_okq (⟨"MaskTouchModel", "within", "(IIIII)I"⟩, 26) := ⟨⟨by decide +kernel, by decide +kernel⟩, List.mem_of_getElem? (i := 1037) (by decide +kernel), List.mem_of_getElem? (i := 1610) (by decide +kernel), List.mem_of_getElem? (i := 1611) (by decide +kernel)⟩
theorem lw_p71 : lw_okq (⟨"MaskTouchModel", "farthest", "(I)I"⟩, 26) := ⟨⟨by decide +kernel, by decide +kernel⟩, List.mem_of_getElem? (i := 1037) (by decide +kernel), List.mem_of_getElem? (i := 1622) (by decide +kernel), List.mem_of_getElem? (i := 1623) (by decide +kernel)⟩
theorem lw_p72 : lw_okq (⟨"MaskTouchModel", "dotsOfAll", "()I"⟩, 26) := ⟨⟨by decide +kernel, by decide +kernel⟩, List.mem_of_getElem? (i := 1037) (by decide +kernel), List.mem_of_getElem? (i := 1656) (by decide +kernel), List.mem_of_getElem? (i := 1657) (by decide +kernel)⟩
def lw_privs_5 : List (MethodName × Nat) := [(⟨"MaskTouchModel", "lies", "(III)Z"⟩, 26), (⟨"MaskTouchModel", "boxesMeet", "(II)Z"⟩, 26), (⟨"MaskTouchModel", "hasBox", "(I)Z"⟩, 26), (⟨"MaskTouchModel", "bodiesAt", "(II)I"⟩, 26), (⟨"MaskTouchModel", "masksMeet", "(IIII)Z"⟩, 26), (⟨"MaskTouchModel", "areLike", "(III)Z"⟩, 26), (⟨"MaskTouchModel", "within", "(IIIII)I"⟩, 26), (⟨"MaskTouchModel", "farthest", "(I)I"⟩, 26), (⟨"MaskTouchModel", "dotsOfAll", "()I"⟩, 26)]
theorem lw_r5 : ∀ q ∈ lw_privs_5, lw_okq q := List.forall_mem_cons.mpr ⟨lw_p64, List.forall_mem_cons.mpr ⟨lw_p65, List.forall_mem_cons.mpr ⟨lw_p66, List.forall_mem_cons.mpr ⟨lw_p67, List.forall_mem_cons.mpr ⟨lw_p68, List.forall_mem_cons.mpr ⟨lw_p69, List.forall_mem_cons.mpr ⟨lw_p70, List.forall_mem_cons.mpr ⟨lw_p71, List.forall_mem_cons.mpr ⟨lw_p72, fun _ h => absurd h List.not_mem_nil⟩⟩⟩⟩⟩⟩⟩⟩⟩
def lw_privs : List (MethodName × Nat) := lw_privs_1 ++ (lw_privs_2 ++ (lw_privs_3 ++ (lw_privs_4 ++ (lw_privs_5))))
def lw_tbl : List Cond := k2_sels lw_privs ++ tables_1
theorem lw_privs_ok : ∀ q ∈ lw_privs, lw_okq q := by
  show ∀ q ∈ lw_privs_1 ++ (lw_privs_2 ++ (lw_privs_3 ++ (lw_privs_4 ++ (lw_privs_5)))), lw_okq q
  exact List.forall_mem_append.mpr ⟨lw_r1, List.forall_mem_append.mpr ⟨lw_r2, List.forall_mem_append.mpr ⟨lw_r3, List.forall_mem_append.mpr ⟨lw_r4, lw_r5⟩⟩⟩⟩
/-- the streams that the claim lets the run draw from -/
abbrev lw_cs : List Choice := [Jvm.Choice.named "NaN.bits"]
theorem lw_bits : nanBits ∈ lw_cs := by first | decide | exact List.mem_cons_self | simp [lw_cs, nanBits]
end
section
def RX0 : String := "MaskTouch$Body"
def TX0 : u_T := fun k => match k with
  | 0 => ("MaskTouch$Body", "mask", "I", false)
  | 1 => ("MaskTouch$Body", "x", "I", false)
  | 2 => ("MaskTouch$Body", "y", "I", false)
  | 3 => ("MaskTouch$Body", "flip", "I", false)
  | 4 => ("MaskTouch$Body", "own", "I", false)
  | 5 => ("MaskTouch$Body", "sees", "I", false)
  | 6 => ("MaskTouch$Body", "vx", "I", false)
  | _ => ("MaskTouch$Body", "vy", "I", false)
def tyX0 : Nat → FieldType := fun k => match k with
  | 0 => .int
  | 1 => .int
  | 2 => .int
  | 3 => .int
  | 4 => .int
  | 5 => .int
  | 6 => .int
  | _ => .int
theorem nmX0 : ∀ a, a < 8 → ∀ b, b < 8 → a ≠ b → (TX0 a).2.1 ≠ (TX0 b).2.1 := by decide +kernel
theorem tyX0_ok : ∀ k, k < 8 → parseFieldDescriptor (TX0 k).2.2.1 = some (tyX0 k) := by decide +kernel
def RX1 : String := "MaskTouch$Field"
def TX1 : u_T := fun k => match k with
  | 0 => ("MaskTouch$Field", "masks", "[LMaskTouch$Mask;", true)
  | 1 => ("MaskTouch$Field", "bodies", "[LMaskTouch$Body;", true)
  | 2 => ("MaskTouch$Field", "maskCount", "I", false)
  | 3 => ("MaskTouch$Field", "bodyCount", "I", false)
  | _ => ("MaskTouch$Field", "tickCount", "I", false)
def tyX1 : Nat → FieldType := fun k => match k with
  | 0 => .array (.object "MaskTouch$Mask")
  | 1 => .array (.object "MaskTouch$Body")
  | 2 => .int
  | 3 => .int
  | _ => .int
theorem nmX1 : ∀ a, a < 5 → ∀ b, b < 5 → a ≠ b → (TX1 a).2.1 ≠ (TX1 b).2.1 := by decide +kernel
theorem tyX1_ok : ∀ k, k < 5 → parseFieldDescriptor (TX1 k).2.2.1 = some (tyX1 k) := by decide +kernel
def RX2 : String := "MaskTouch$Flood"
def TX2 : u_T := fun k => match k with
  | 0 => ("MaskTouch$Flood", "open", "LMaskTouch$Mask;", true)
  | 1 => ("MaskTouch$Flood", "queue", "[I", true)
  | 2 => ("MaskTouch$Flood", "queued", "I", false)
  | 3 => ("MaskTouch$Flood", "size", "I", false)
  | 4 => ("MaskTouch$Flood", "left", "I", false)
  | 5 => ("MaskTouch$Flood", "top", "I", false)
  | 6 => ("MaskTouch$Flood", "right", "I", false)
  | _ => ("MaskTouch$Flood", "bottom", "I", false)
def tyX2 : Nat → FieldType := fun k => match k with
  | 0 => .object "MaskTouch$Mask"
  | 1 => .array .int
  | 2 => .int
  | 3 => .int
  | 4 => .int
  | 5 => .int
  | 6 => .int
  | _ => .int
theorem nmX2 : ∀ a, a < 8 → ∀ b, b < 8 → a ≠ b → (TX2 a).2.1 ≠ (TX2 b).2.1 := by decide +kernel
theorem tyX2_ok : ∀ k, k < 8 → parseFieldDescriptor (TX2 k).2.2.1 = some (tyX2 k) := by decide +kernel
def RX3 : String := "MaskTouch$Mask"
def TX3 : u_T := fun k => match k with
  | 0 => ("MaskTouch$Mask", "wide", "I", false)
  | 1 => ("MaskTouch$Mask", "high", "I", false)
  | 2 => ("MaskTouch$Mask", "words", "[J", true)
  | 3 => ("MaskTouch$Mask", "total", "I", false)
  | 4 => ("MaskTouch$Mask", "left", "I", false)
  | 5 => ("MaskTouch$Mask", "top", "I", false)
  | 6 => ("MaskTouch$Mask", "right", "I", false)
  | _ => ("MaskTouch$Mask", "bottom", "I", false)
def tyX3 : Nat → FieldType := fun k => match k with
  | 0 => .int
  | 1 => .int
  | 2 => .array .long
  | 3 => .int
  | 4 => .int
  | 5 => .int
  | 6 => .int
  | _ => .int
theorem nmX3 : ∀ a, a < 8 → ∀ b, b < 8 → a ≠ b → (TX3 a).2.1 ≠ (TX3 b).2.1 := by decide +kernel
theorem tyX3_ok : ∀ k, k < 8 → parseFieldDescriptor (TX3 k).2.2.1 = some (tyX3 k) := by decide +kernel
def RX4 : String := "MaskTouch$Reader"
def TX4 : u_T := fun k => match k with
  | 0 => ("MaskTouch$Reader", "text", "[B", true)
  | 1 => ("MaskTouch$Reader", "length", "I", false)
  | 2 => ("MaskTouch$Reader", "spot", "I", false)
  | 3 => ("MaskTouch$Reader", "wordStart", "I", false)
  | 4 => ("MaskTouch$Reader", "number", "I", false)
  | _ => ("MaskTouch$Reader", "fault", "I", false)
def tyX4 : Nat → FieldType := fun k => match k with
  | 0 => .array .byte
  | 1 => .int
  | 2 => .int
  | 3 => .int
  | 4 => .int
  | _ => .int
theorem nmX4 : ∀ a, a < 6 → ∀ b, b < 6 → a ≠ b → (TX4 a).2.1 ≠ (TX4 b).2.1 := by decide +kernel
theorem tyX4_ok : ∀ k, k < 6 → parseFieldDescriptor (TX4 k).2.2.1 = some (tyX4 k) := by decide +kernel
def RX5 : String := "MaskTouch$Scene"
def TX5 : u_T := fun k => match k with
  | 0 => ("MaskTouch$Scene", "field", "LMaskTouch$Field;", true)
  | 1 => ("MaskTouch$Scene", "shapes", "[LMaskTouch$Mask;", true)
  | 2 => ("MaskTouch$Scene", "steps", "I", false)
  | 3 => ("MaskTouch$Scene", "stopper", "I", false)
  | 4 => ("MaskTouch$Scene", "goneX", "I", false)
  | 5 => ("MaskTouch$Scene", "goneY", "I", false)
  | 6 => ("MaskTouch$Scene", "found", "I", false)
  | 7 => ("MaskTouch$Scene", "foundX", "I", false)
  | _ => ("MaskTouch$Scene", "foundY", "I", false)
def tyX5 : Nat → FieldType := fun k => match k with
  | 0 => .object "MaskTouch$Field"
  | 1 => .array (.object "MaskTouch$Mask")
  | 2 => .int
  | 3 => .int
  | 4 => .int
  | 5 => .int
  | 6 => .int
  | 7 => .int
  | _ => .int
theorem nmX5 : ∀ a, a < 9 → ∀ b, b < 9 → a ≠ b → (TX5 a).2.1 ≠ (TX5 b).2.1 := by decide +kernel
theorem tyX5_ok : ∀ k, k < 9 → parseFieldDescriptor (TX5 k).2.2.1 = some (tyX5 k) := by decide +kernel
def RX6 : String := "MaskTouch"
def TX6 : u_T := fun k => match k with
  | 0 => ("MaskTouch", "tape", "[B", true)
  | 1 => ("MaskTouch", "taped", "I", false)
  | 2 => ("MaskTouch", "now", "LMaskTouch$Field;", true)
  | 3 => ("MaskTouch", "draft", "LMaskTouch$Field;", true)
  | 4 => ("MaskTouch", "reader", "LMaskTouch$Reader;", true)
  | 5 => ("MaskTouch", "scene", "LMaskTouch$Scene;", true)
  | 6 => ("MaskTouch", "sketch", "LMaskTouch$Mask;", true)
  | 7 => ("MaskTouch", "flood", "LMaskTouch$Flood;", true)
  | 8 => ("MaskTouch", "past", "[LMaskTouch$Field;", true)
  | 9 => ("MaskTouch", "oldest", "I", false)
  | 10 => ("MaskTouch", "undoable", "I", false)
  | _ => ("MaskTouch", "shelves", "[LMaskTouch$Field;", true)
def tyX6 : Nat → FieldType := fun k => match k with
  | 0 => .array .byte
  | 1 => .int
  | 2 => .object "MaskTouch$Field"
  | 3 => .object "MaskTouch$Field"
  | 4 => .object "MaskTouch$Reader"
  | 5 => .object "MaskTouch$Scene"
  | 6 => .object "MaskTouch$Mask"
  | 7 => .object "MaskTouch$Flood"
  | 8 => .array (.object "MaskTouch$Field")
  | 9 => .int
  | 10 => .int
  | _ => .array (.object "MaskTouch$Field")
theorem nmX6 : ∀ a, a < 12 → ∀ b, b < 12 → a ≠ b → (TX6 a).2.1 ≠ (TX6 b).2.1 := by decide +kernel
theorem tyX6_ok : ∀ k, k < 12 → parseFieldDescriptor (TX6 k).2.2.1 = some (tyX6 k) := by decide +kernel
def RX7 : String := "MaskTouchModel"
def TX7 : u_T := fun k => match k with
  | 0 => ("MaskTouchModel", "now", "[I", true)
  | 1 => ("MaskTouchModel", "heard", "[I", true)
  | 2 => ("MaskTouchModel", "aside", "[I", true)
  | 3 => ("MaskTouchModel", "past", "[I", true)
  | 4 => ("MaskTouchModel", "shelf", "[I", true)
  | 5 => ("MaskTouchModel", "dots", "[J", true)
  | 6 => ("MaskTouchModel", "heardDots", "[J", true)
  | 7 => ("MaskTouchModel", "asideDots", "[J", true)
  | 8 => ("MaskTouchModel", "pastDots", "[J", true)
  | 9 => ("MaskTouchModel", "shelfDots", "[J", true)
  | 10 => ("MaskTouchModel", "isKept", "[Z", true)
  | 11 => ("MaskTouchModel", "pastMany", "I", false)
  | 12 => ("MaskTouchModel", "tape", "[B", true)
  | 13 => ("MaskTouchModel", "taped", "I", false)
  | 14 => ("MaskTouchModel", "at", "I", false)
  | 15 => ("MaskTouchModel", "fault", "I", false)
  | 16 => ("MaskTouchModel", "numberAt", "I", false)
  | 17 => ("MaskTouchModel", "laid", "[J", true)
  | 18 => ("MaskTouchModel", "stopper", "I", false)
  | 19 => ("MaskTouchModel", "made", "[J", true)
  | 20 => ("MaskTouchModel", "ends", "[I", true)
  | 21 => ("MaskTouchModel", "island", "[I", true)
  | 22 => ("MaskTouchModel", "queue", "[I", true)
  | 23 => ("MaskTouchModel", "islands", "I", false)
  | 24 => ("MaskTouchModel", "queued", "I", false)
  | _ => ("MaskTouchModel", "box", "[I", true)
def tyX7 : Nat → FieldType := fun k => match k with
  | 0 => .array .int
  | 1 => .array .int
  | 2 => .array .int
  | 3 => .array .int
  | 4 => .array .int
  | 5 => .array .long
  | 6 => .array .long
  | 7 => .array .long
  | 8 => .array .long
  | 9 => .array .long
  | 10 => .array .boolean
  | 11 => .int
  | 12 => .array .byte
  | 13 => .int
  | 14 => .int
  | 15 => .int
  | 16 => .int
  | 17 => .array .long
  | 18 => .int
  | 19 => .array .long
  | 20 => .array .int
  | 21 => .array .int
  | 22 => .array .int
  | 23 => .int
  | 24 => .int
  | _ => .array .int
theorem nmX7 : ∀ a, a < 26 → ∀ b, b < 26 → a ≠ b → (TX7 a).2.1 ≠ (TX7 b).2.1 := by decide +kernel
theorem tyX7_ok : ∀ k, k < 26 → parseFieldDescriptor (TX7 k).2.2.1 = some (tyX7 k) := by decide +kernel
def RL : String := "MaskTouchLaw"
def RJ9 : String := "java/lang/Math"
abbrev vwCl : List vw_C := [(RX0, TX0, 8), (RX1, TX1, 5), (RX2, TX2, 8), (RX3, TX3, 8), (RX4, TX4, 6), (RX5, TX5, 9), (RX6, TX6, 12), (RX7, TX7, 26)]
theorem dfX0 : ∀ j, j < 8 → defaultValue (tyX0 j) = vp_V [.int 0, .int 0, .int 0, .int 0, .int 0, .int 0, .int 0, .int 0] j := by
  intro j hj
  match j, hj with
  | 0, _ => rfl
  | 1, _ => rfl
  | 2, _ => rfl
  | 3, _ => rfl
  | 4, _ => rfl
  | 5, _ => rfl
  | 6, _ => rfl
  | 7, _ => rfl
  | k + 8, h => exact absurd h (by omega)
theorem dfX1 : ∀ j, j < 5 → defaultValue (tyX1 j) = vp_V [.null, .null, .int 0, .int 0, .int 0] j := by
  intro j hj
  match j, hj with
  | 0, _ => rfl
  | 1, _ => rfl
  | 2, _ => rfl
  | 3, _ => rfl
  | 4, _ => rfl
  | k + 5, h => exact absurd h (by omega)
theorem dfX2 : ∀ j, j < 8 → defaultValue (tyX2 j) = vp_V [.null, .null, .int 0, .int 0, .int 0, .int 0, .int 0, .int 0] j := by
  intro j hj
  match j, hj with
  | 0, _ => rfl
  | 1, _ => rfl
  | 2, _ => rfl
  | 3, _ => rfl
  | 4, _ => rfl
  | 5, _ => rfl
  | 6, _ => rfl
  | 7, _ => rfl
  | k + 8, h => exact absurd h (by omega)
theorem dfX3 : ∀ j, j < 8 → defaultValue (tyX3 j) = vp_V [.int 0, .int 0, .null, .int 0, .int 0, .int 0, .int 0, .int 0] j := by
  intro j hj
  match j, hj with
  | 0, _ => rfl
  | 1, _ => rfl
  | 2, _ => rfl
  | 3, _ => rfl
  | 4, _ => rfl
  | 5, _ => rfl
  | 6, _ => rfl
  | 7, _ => rfl
  | k + 8, h => exact absurd h (by omega)
theorem dfX4 : ∀ j, j < 6 → defaultValue (tyX4 j) = vp_V [.null, .int 0, .int 0, .int 0, .int 0, .int 0] j := by
  intro j hj
  match j, hj with
  | 0, _ => rfl
  | 1, _ => rfl
  | 2, _ => rfl
  | 3, _ => rfl
  | 4, _ => rfl
  | 5, _ => rfl
  | k + 6, h => exact absurd h (by omega)
theorem dfX5 : ∀ j, j < 9 → defaultValue (tyX5 j) = vp_V [.null, .null, .int 0, .int 0, .int 0, .int 0, .int 0, .int 0, .int 0] j := by
  intro j hj
  match j, hj with
  | 0, _ => rfl
  | 1, _ => rfl
  | 2, _ => rfl
  | 3, _ => rfl
  | 4, _ => rfl
  | 5, _ => rfl
  | 6, _ => rfl
  | 7, _ => rfl
  | 8, _ => rfl
  | k + 9, h => exact absurd h (by omega)
theorem dfX6 : ∀ j, j < 12 → defaultValue (tyX6 j) = vp_V [.null, .int 0, .null, .null, .null, .null, .null, .null, .null, .int 0, .int 0, .null] j := by
  intro j hj
  match j, hj with
  | 0, _ => rfl
  | 1, _ => rfl
  | 2, _ => rfl
  | 3, _ => rfl
  | 4, _ => rfl
  | 5, _ => rfl
  | 6, _ => rfl
  | 7, _ => rfl
  | 8, _ => rfl
  | 9, _ => rfl
  | 10, _ => rfl
  | 11, _ => rfl
  | k + 12, h => exact absurd h (by omega)
theorem dfX7 : ∀ j, j < 26 → defaultValue (tyX7 j) = vp_V [.null, .null, .null, .null, .null, .null, .null, .null, .null, .null, .null, .int 0, .null, .int 0, .int 0, .int 0, .int 0, .null, .int 0, .null, .null, .null, .null, .int 0, .int 0, .null] j := by
  intro j hj
  match j, hj with
  | 0, _ => rfl
  | 1, _ => rfl
  | 2, _ => rfl
  | 3, _ => rfl
  | 4, _ => rfl
  | 5, _ => rfl
  | 6, _ => rfl
  | 7, _ => rfl
  | 8, _ => rfl
  | 9, _ => rfl
  | 10, _ => rfl
  | 11, _ => rfl
  | 12, _ => rfl
  | 13, _ => rfl
  | 14, _ => rfl
  | 15, _ => rfl
  | 16, _ => rfl
  | 17, _ => rfl
  | 18, _ => rfl
  | 19, _ => rfl
  | 20, _ => rfl
  | 21, _ => rfl
  | 22, _ => rfl
  | 23, _ => rfl
  | 24, _ => rfl
  | 25, _ => rfl
  | k + 26, h => exact absurd h (by omega)
end
section
def yX0_init : MethodName := ⟨RX0, "<init>", "()V"⟩
def yX2_init : MethodName := ⟨RX2, "<init>", "()V"⟩
def yX3_init : MethodName := ⟨RX3, "<init>", "()V"⟩
theorem mem_r {big : List Cond} (ws : List Cond) (ps : List Nat) (hp : ws = ps.filterMap (fun i => big[i]?)) : ∀ w ∈ ws, w ∈ big := by
  intro w hw
  rw [hp] at hw
  obtain ⟨i, -, hi⟩ := List.mem_filterMap.mp hw
  exact List.mem_of_getElem? hi
/-- the tables' words that keep: what every contract here takes as its words -/
def pw : List Cond := lw_tbl.filter goodWord
theorem pw_mem {i : Nat} {w : Cond} (h : lw_tbl[i]? = some w) (g : goodWord w = true) : w ∈ pw := List.mem_filter.mpr ⟨List.mem_of_getElem? h, g⟩
theorem pw_tbl {w : Cond} (h : w ∈ pw) : w ∈ lw_tbl := (List.mem_filter.mp h).1
theorem pw_good {w : Cond} (h : w ∈ pw) : (w.onTables && w.keeps) = true ∨ ∃ ty, w = .arrayClass ty := good_of_word (List.mem_filter.mp h).2
theorem gI {y : MethodName} {c : ByteArray} {n : Nat} {r : Option FieldType} (h : Cond.code y c n r ∈ pw) : GoodIn pw (Cond.code y c n r :: pw) := by
  intro w hw
  rcases List.mem_cons.mp hw with rfl | hw
  · exact ⟨h, pw_good h⟩
  · exact ⟨hw, pw_good hw⟩
theorem gP {ws a : List Cond} (ha : ∀ w ∈ a, w ∈ pw) (h : GoodIn pw ws) : GoodIn pw (a ++ ws) := by
  intro w hw
  rcases List.mem_append.mp hw with hw | hw
  · exact ⟨ha w hw, pw_good (ha w hw)⟩
  · exact h w hw
theorem gV {own C : String} {idx : Nat} {y : MethodName} {c : ByteArray} {n : Nat} {r : Option FieldType} (h1 : Cond.methodLink own idx y ∈ pw) (h2 : Cond.instanceMethod y ∈ pw) (h3 : Cond.selects C y y ∈ pw) (h4 : Cond.initialized C ∈ pw) (h : Cond.code y c n r ∈ pw) : GoodIn pw (wsV own idx C y (Cond.code y c n r :: pw)) := by
  refine gP ?_ (gI h)
  intro w hw
  simp only [List.mem_cons, List.not_mem_nil, or_false] at hw
  rcases hw with rfl | rfl | rfl | rfl
  · exact h1
  · exact h2
  · exact h3
  · exact h4
theorem gS {own : String} {idx : Nat} {y : MethodName} {c : ByteArray} {n : Nat} {r : Option FieldType} (h1 : Cond.methodLink own idx y ∈ pw) (h2 : Cond.static y ∈ pw) (h3 : Cond.initialized y.cls ∈ pw) (h : Cond.code y c n r ∈ pw) : GoodIn pw (va_wsS own idx y (Cond.code y c n r :: pw)) := by
  refine gP ?_ (gI h)
  intro w hw
  simp only [List.mem_cons, List.not_mem_nil, or_false] at hw
  rcases hw with rfl | rfl | rfl
  · exact h1
  · exact h2
  · exact h3
/-- what the tables say beyond words: the private constructors of nest mates, arrays over own classes -/
def xN (U : State) : Prop := va_Nw (.methodLinkNest RX1 33 yX3_init "MaskTouch") U ∧ va_Nw (.methodLinkNest RX1 34 yX0_init "MaskTouch") U ∧ va_Nw (.methodLinkNest RX5 43 yX3_init "MaskTouch") U ∧ va_Nw (.methodLinkNest RX6 47 yX3_init "MaskTouch") U ∧ va_Nw (.methodLinkNest RX6 54 yX2_init "MaskTouch") U ∧ va_Nw (.methodLinkNest RX2 11 yX3_init "MaskTouch") U ∧ va_AO RX3 U ∧ va_AO RX0 U ∧ va_AO RX1 U
theorem xN_X1_33 {U : State} (h : xN U) : va_Nw (.methodLinkNest RX1 33 yX3_init "MaskTouch") U := h.1
theorem xN_X1_34 {U : State} (h : xN U) : va_Nw (.methodLinkNest RX1 34 yX0_init "MaskTouch") U := h.2.1
theorem xN_X5_43 {U : State} (h : xN U) : va_Nw (.methodLinkNest RX5 43 yX3_init "MaskTouch") U := h.2.2.1
theorem xN_X6_47 {U : State} (h : xN U) : va_Nw (.methodLinkNest RX6 47 yX3_init "MaskTouch") U := h.2.2.2.1
theorem xN_X6_54 {U : State} (h : xN U) : va_Nw (.methodLinkNest RX6 54 yX2_init "MaskTouch") U := h.2.2.2.2.1
theorem xN_X2_11 {U : State} (h : xN U) : va_Nw (.methodLinkNest RX2 11 yX3_init "MaskTouch") U := h.2.2.2.2.2.1
theorem xN_aoX3 {U : State} (h : xN U) : va_AO RX3 U := h.2.2.2.2.2.2.1
theorem xN_aoX0 {U : State} (h : xN U) : va_AO RX0 U := h.2.2.2.2.2.2.2.1
theorem xN_aoX1 {U : State} (h : xN U) : va_AO RX1 U := h.2.2.2.2.2.2.2.2
theorem xN_warm {s U : State} (hW : s.WarmedH U.vm) (h : xN s) : xN U := ⟨va_Nw.warmM hW (h.1), va_Nw.warmM hW (h.2.1), va_Nw.warmM hW (h.2.2.1), va_Nw.warmM hW (h.2.2.2.1), va_Nw.warmM hW (h.2.2.2.2.1), va_Nw.warmM hW (h.2.2.2.2.2.1), va_AO.moved hW.alike (h.2.2.2.2.2.2.1), va_AO.moved hW.alike (h.2.2.2.2.2.2.2.1), va_AO.moved hW.alike (h.2.2.2.2.2.2.2.2)⟩
theorem xN_call {U : State} {g : JFrame} {mk : MethodId} {a : Array Value} (h : xN U) : xN (U.calling g mk a) := ⟨va_Nw.same (u := U) (U := U.calling g mk a) rfl rfl (h.1), va_Nw.same (u := U) (U := U.calling g mk a) rfl rfl (h.2.1), va_Nw.same (u := U) (U := U.calling g mk a) rfl rfl (h.2.2.1), va_Nw.same (u := U) (U := U.calling g mk a) rfl rfl (h.2.2.2.1), va_Nw.same (u := U) (U := U.calling g mk a) rfl rfl (h.2.2.2.2.1), va_Nw.same (u := U) (U := U.calling g mk a) rfl rfl (h.2.2.2.2.2.1), va_AO.moved (u := U) (U := U.calling g mk a) (Vm.Alike.refl U.vm) (h.2.2.2.2.2.2.1), va_AO.moved (u := U) (U := U.calling g mk a) (Vm.Alike.refl U.vm) (h.2.2.2.2.2.2.2.1), va_AO.moved (u := U) (U := U.calling g mk a) (Vm.Alike.refl U.vm) (h.2.2.2.2.2.2.2.2)⟩
set_option maxRecDepth 100000 in
theorem xN_of {a : Array Value} {s : State} (hts : ∀ w ∈ lw_tbl, w.before a s = true) : xN s := ⟨va_Nw.of rfl (hts (.methodLinkNest RX1 33 yX3_init "MaskTouch") (List.mem_of_getElem? (i := 112) (by decide +kernel))), va_Nw.of rfl (hts (.methodLinkNest RX1 34 yX0_init "MaskTouch") (List.mem_of_getElem? (i := 165) (by decide +kernel))), va_Nw.of rfl (hts (.methodLinkNest RX5 43 yX3_init "MaskTouch") (List.mem_of_getElem? (i := 273) (by decide +kernel))), va_Nw.of rfl (hts (.methodLinkNest RX6 47 yX3_init "MaskTouch") (List.mem_of_getElem? (i := 308) (by decide +kernel))), va_Nw.of rfl (hts (.methodLinkNest RX6 54 yX2_init "MaskTouch") (List.mem_of_getElem? (i := 311) (by decide +kernel))), va_Nw.of rfl (hts (.methodLinkNest RX2 11 yX3_init "MaskTouch") (List.mem_of_getElem? (i := 316) (by decide +kernel))), va_AO.of (hts (.arrayOver (.object RX3)) (List.mem_of_getElem? (i := 108) (by decide +kernel))), va_AO.of (hts (.arrayOver (.object RX0)) (List.mem_of_getElem? (i := 110) (by decide +kernel))), va_AO.of (hts (.arrayOver (.object RX1)) (List.mem_of_getElem? (i := 348) (by decide +kernel)))⟩
/-- a method's start: its cells, the classes, the tables -/
def pc (D : va_G) (av : List Value) (sz : Nat) (ws : va_W) (tys : List (ClassId × FieldType)) : Array Value → State → Prop := va_Pc av (fun U => U.heap.size = sz ∧ va_P D vwCl ws U.heap ∧ va_K D vwCl tys U ∧ va_D (fun _ => True) ws ∧ xN U)
theorem pc_blind {D : va_G} {av : List Value} {sz : Nat} {ws : va_W} {tys : List (ClassId × FieldType)} : FrameBlind (pc D av sz ws tys) := fun a U g mk q => by
  obtain ⟨q0, q1, qP, qK, qD, qN⟩ := q
  exact ⟨q0, q1, qP, va_K.moved (u := U) (U := U.calling g mk a) (Vm.Alike.refl U.vm) qK, qD, xN_call qN⟩
theorem pc_S {s : State} {H : Heap} {D : va_G} {As : List Value} {ws : va_W} {tys : List (ClassId × FieldType)} {A : Nat → Prop} (hP : va_P D vwCl ws H) (hD : va_D A ws) (hK : va_K D vwCl tys s) (hN : xN s) : PreS s H (pc D As H.size ws tys) As :=
  ⟨pc_blind, fun U hU hW => ⟨rfl, by rw [hU], by rw [hU]; exact hP, va_K.moved hW.alike hK, hD.weaken (fun _ _ _ _ => trivial), xN_warm hW hN⟩⟩
theorem pc_V {s : State} {H : Heap} {D : va_G} {b : Addr} {C : String} {As : List Value} {ws : va_W} {tys : List (ClassId × FieldType)} {A : Nat → Prop} (hP : va_P D vwCl ws H) (hD : va_D A ws) (hK : va_K D vwCl tys s) (hN : xN s) (hr : ∃ cell : Cell, H[b]? = some cell ∧ cell.vm.isStatics = false ∧ s.vm.findClass C = some cell.cls) : PreV s H C b (pc D (.ref b :: As) H.size ws tys) As :=
  ⟨pc_blind, hr, (pc_S (As := .ref b :: As) hP hD hK hN).2⟩
/-- a world behind a method -/
def wB (D : va_G) (ws : va_W) (tys : List (ClassId × FieldType)) (A : Nat → Prop) (t : State) : Prop := va_P D vwCl ws t.heap ∧ va_K D vwCl tys t ∧ va_D A ws
theorem va_P0 {D : va_G} {cl : List vw_C} {H : Heap} : va_P D cl [] H := fun k q h => by simp at h
theorem va_D0 {A : Nat → Prop} : va_D A [] := ⟨fun i j p q h => by simp at h, fun k q h => by simp at h⟩
theorem in_d {i : Int32} {n : Nat} (h : ¬ (i < 0 ∨ n ≤ i.toNatClampNeg)) : vp_in i n := h
section RO
variable {p : Program} {l : Launch} {e : Env} {R : Room} {s : State} {m : MethodId} {args : Array Value} {below : List Frame} {meth : Method} {c : Code} {H : Heap} {locs : List Loc} {cells slots : Nat} {Q : State → Prop}
variable {pc : Nat} {ls : Array Slot} {rest st0 : List Value} {a : Array Value} {A0 : Nat → Prop} {H0 : Heap} {D : va_G} {cl : List vw_C} {ws : va_W}
/-- calls that change nothing -/
theorem ro_i {post : Int32 → Unit → Prop} (hr : va_Run p l e R s m args below meth c H locs cells slots 0 0 (F0 m pc ls st0) rest (va_Qi post (fun _ _ => True) (fun _ => False) a) (fun _ => False)) (hS : va_S A0 H0 H locs) (hP : va_P D cl ws H)
    (kk : ∀ (r : Int32) (H1 : Heap) (locs1 : List Loc), post r () → va_P D cl ws H1 → va_S A0 H0 H1 locs1 → W p l e R s m args below meth c H1 locs1 cells slots Q (F0 m (pc + 3) ls (.int r :: rest))) : W p l e R s m args below meth c H locs cells slots Q (F0 m pc ls st0) :=
  va_calli hr hS (fun q _ h => h.elim) (fun q h => h.elim) (fun r u t H1 locs1 ht hvm hw hB hz1 hk1 hS => kk r H1 locs1 hw (hP.kept (fun k q hk => hk1 q.1 ((hP k q hk).lt) (fun h => h))) hS)
theorem ro_l {post : Int64 → Unit → Prop} (hr : va_Run p l e R s m args below meth c H locs cells slots 0 0 (F0 m pc ls st0) rest (va_Ql post (fun _ _ => True) (fun _ => False) a) (fun _ => False)) (hS : va_S A0 H0 H locs) (hP : va_P D cl ws H)
    (kk : ∀ (r : Int64) (H1 : Heap) (locs1 : List Loc), post r () → va_P D cl ws H1 → va_S A0 H0 H1 locs1 → W p l e R s m args below meth c H1 locs1 cells slots Q (F0 m (pc + 3) ls (.long r :: rest))) : W p l e R s m args below meth c H locs cells slots Q (F0 m pc ls st0) :=
  va_calll hr hS (fun q _ h => h.elim) (fun q h => h.elim) (fun r u t H1 locs1 ht hvm hw hB hz1 hk1 hS => kk r H1 locs1 hw (hP.kept (fun k q hk => hk1 q.1 ((hP k q hk).lt) (fun h => h))) hS)
theorem ro_v {post : Unit → Prop} (hr : va_Run p l e R s m args below meth c H locs cells slots 0 0 (F0 m pc ls st0) rest (va_Qv post (fun _ _ => True) (fun _ => False) a) (fun _ => False)) (hS : va_S A0 H0 H locs) (hP : va_P D cl ws H)
    (kk : ∀ (H1 : Heap) (locs1 : List Loc), va_P D cl ws H1 → va_S A0 H0 H1 locs1 → W p l e R s m args below meth c H1 locs1 cells slots Q (F0 m (pc + 3) ls rest)) : W p l e R s m args below meth c H locs cells slots Q (F0 m pc ls st0) :=
  va_callv hr hS (fun q _ h => h.elim) (fun q h => h.elim) (fun u t H1 locs1 ht hvm hw hB hz1 hk1 hS => kk H1 locs1 (hP.kept (fun k q hk => hk1 q.1 ((hP k q hk).lt) (fun h => h))) hS)
end RO
set_option maxRecDepth 100000 in
theorem inX0 : ∀ w ∈ u_ws RX0 TX0 8, w ∈ pw := fun w h => List.mem_filter.mpr ⟨(mem_r (big := lw_tbl) (u_ws RX0 TX0 8) [196, 198, 200, 202, 204, 206, 208, 210] (by decide +kernel) w h), List.all_eq_true.mp (show (u_ws RX0 TX0 8).all goodWord = true by decide +kernel) w h⟩
set_option maxRecDepth 100000 in
theorem inX1 : ∀ w ∈ u_ws RX1 TX1 5, w ∈ pw := fun w h => List.mem_filter.mpr ⟨(mem_r (big := lw_tbl) (u_ws RX1 TX1 5) [230, 232, 234, 236, 238] (by decide +kernel) w h), List.all_eq_true.mp (show (u_ws RX1 TX1 5).all goodWord = true by decide +kernel) w h⟩
set_option maxRecDepth 100000 in
theorem inX2 : ∀ w ∈ u_ws RX2 TX2 8, w ∈ pw := fun w h => List.mem_filter.mpr ⟨(mem_r (big := lw_tbl) (u_ws RX2 TX2 8) [330, 332, 334, 336, 338, 340, 342, 344] (by decide +kernel) w h), List.all_eq_true.mp (show (u_ws RX2 TX2 8).all goodWord = true by decide +kernel) w h⟩
set_option maxRecDepth 100000 in
theorem inX3 : ∀ w ∈ u_ws RX3 TX3 8, w ∈ pw := fun w h => List.mem_filter.mpr ⟨(mem_r (big := lw_tbl) (u_ws RX3 TX3 8) [145, 147, 149, 151, 153, 155, 157, 159] (by decide +kernel) w h), List.all_eq_true.mp (show (u_ws RX3 TX3 8).all goodWord = true by decide +kernel) w h⟩
set_option maxRecDepth 100000 in
theorem inX4 : ∀ w ∈ u_ws RX4 TX4 6, w ∈ pw := fun w h => List.mem_filter.mpr ⟨(mem_r (big := lw_tbl) (u_ws RX4 TX4 6) [253, 255, 257, 259, 261, 263] (by decide +kernel) w h), List.all_eq_true.mp (show (u_ws RX4 TX4 6).all goodWord = true by decide +kernel) w h⟩
set_option maxRecDepth 100000 in
theorem inX5 : ∀ w ∈ u_ws RX5 TX5 9, w ∈ pw := fun w h => List.mem_filter.mpr ⟨(mem_r (big := lw_tbl) (u_ws RX5 TX5 9) [288, 290, 292, 294, 296, 298, 300, 302, 304] (by decide +kernel) w h), List.all_eq_true.mp (show (u_ws RX5 TX5 9).all goodWord = true by decide +kernel) w h⟩
set_option maxRecDepth 100000 in
theorem inX6 : ∀ w ∈ u_ws RX6 TX6 12, w ∈ pw := fun w h => List.mem_filter.mpr ⟨(mem_r (big := lw_tbl) (u_ws RX6 TX6 12) [361, 363, 365, 367, 369, 371, 373, 375, 377, 379, 381, 383] (by decide +kernel) w h), List.all_eq_true.mp (show (u_ws RX6 TX6 12).all goodWord = true by decide +kernel) w h⟩
set_option maxRecDepth 100000 in
theorem inX7 : ∀ w ∈ u_ws RX7 TX7 26, w ∈ pw := fun w h => List.mem_filter.mpr ⟨(mem_r (big := lw_tbl) (u_ws RX7 TX7 26) [1141, 1143, 1145, 1147, 1149, 1151, 1153, 1155, 1157, 1159, 1161, 1163, 1165, 1167, 1169, 1171, 1173, 1175, 1177, 1179, 1181, 1183, 1185, 1187, 1189, 1191] (by decide +kernel) w h), List.all_eq_true.mp (show (u_ws RX7 TX7 26).all goodWord = true by decide +kernel) w h⟩
end
section
def yX6_isBody : MethodName := ⟨RX6, "isBody", "(I)Z"⟩
abbrev cX6_isBody : ByteArray := prog_1_method_61_code
abbrev cX6_areTwoBodies : ByteArray := prog_1_method_62_code
abbrev cX6_isFrom0To : ByteArray := prog_1_method_63_code
abbrev cX6_isMask : ByteArray := prog_1_method_60_code
def yX6_areTwoBodies : MethodName := ⟨RX6, "areTwoBodies", "(II)Z"⟩
def yX6_isFrom0To : MethodName := ⟨RX6, "isFrom0To", "(II)Z"⟩
def yX6_isMask : MethodName := ⟨RX6, "isMask", "(I)Z"⟩
theorem dX6_areTwoBodies_0 : decode cX6_areTwoBodies 0 = .ok (.aload_n 0, 1) := by decide +kernel
theorem dX6_areTwoBodies_1 : decode cX6_areTwoBodies 1 = .ok (.iload_n 1, 1) := by decide +kernel
theorem dX6_areTwoBodies_2 : decode cX6_areTwoBodies 2 = .ok (.invokevirtual 86, 3) := by decide +kernel
theorem dX6_areTwoBodies_5 : decode cX6_areTwoBodies 5 = .ok (.ifCond .eq 20, 3) := by decide +kernel
theorem dX6_areTwoBodies_25 : decode cX6_areTwoBodies 25 = .ok (.iconst 0, 1) := by decide +kernel
theorem dX6_areTwoBodies_26 : decode cX6_areTwoBodies 26 = .ok (.ireturn, 1) := by decide +kernel
theorem dX6_isBody_0 : decode cX6_isBody 0 = .ok (.iload_n 1, 1) := by decide +kernel
theorem dX6_isBody_1 : decode cX6_isBody 1 = .ok (.ifCond .lt 18, 3) := by decide +kernel
theorem dX6_isBody_4 : decode cX6_isBody 4 = .ok (.iload_n 1, 1) := by decide +kernel
theorem dX6_isBody_5 : decode cX6_isBody 5 = .ok (.aload_n 0, 1) := by decide +kernel
theorem dX6_isBody_6 : decode cX6_isBody 6 = .ok (.getfield 20, 3) := by decide +kernel
theorem dX6_isBody_9 : decode cX6_isBody 9 = .ok (.getfield 83, 3) := by decide +kernel
theorem dX6_isBody_12 : decode cX6_isBody 12 = .ok (.if_icmp .ge 7, 3) := by decide +kernel
theorem dX6_isBody_19 : decode cX6_isBody 19 = .ok (.iconst 0, 1) := by decide +kernel
theorem dX6_isBody_20 : decode cX6_isBody 20 = .ok (.ireturn, 1) := by decide +kernel
theorem dX6_isFrom0To_0 : decode cX6_isFrom0To 0 = .ok (.iload_n 0, 1) := by decide +kernel
theorem dX6_isFrom0To_1 : decode cX6_isFrom0To 1 = .ok (.ifCond .lt 12, 3) := by decide +kernel
theorem dX6_isFrom0To_4 : decode cX6_isFrom0To 4 = .ok (.iload_n 0, 1) := by decide +kernel
theorem dX6_isFrom0To_5 : decode cX6_isFrom0To 5 = .ok (.iload_n 1, 1) := by decide +kernel
theorem dX6_isFrom0To_6 : decode cX6_isFrom0To 6 = .ok (.if_icmp .gt 7, 3) := by decide +kernel
theorem dX6_isFrom0To_9 : decode cX6_isFrom0To 9 = .ok (.iconst 1, 1) := by decide +kernel
theorem dX6_isFrom0To_10 : decode cX6_isFrom0To 10 = .ok (.goto 4, 3) := by decide +kernel
theorem dX6_isFrom0To_13 : decode cX6_isFrom0To 13 = .ok (.iconst 0, 1) := by decide +kernel
theorem dX6_isFrom0To_14 : decode cX6_isFrom0To 14 = .ok (.ireturn, 1) := by decide +kernel
theorem dX6_isMask_0 : decode cX6_isMask 0 = .ok (.iload_n 1, 1) := by decide +kernel
theorem dX6_isMask_1 : decode cX6_isMask 1 = .ok (.ifCond .lt 18, 3) := by decide +kernel
theorem dX6_isMask_4 : decode cX6_isMask 4 = .ok (.iload_n 1, 1) := by decide +kernel
theorem dX6_isMask_5 : decode cX6_isMask 5 = .ok (.aload_n 0, 1) := by decide +kernel
theorem dX6_isMask_6 : decode cX6_isMask 6 = .ok (.getfield 20, 3) := by decide +kernel
theorem dX6_isMask_9 : decode cX6_isMask 9 = .ok (.getfield 367, 3) := by decide +kernel
theorem dX6_isMask_12 : decode cX6_isMask 12 = .ok (.if_icmp .ge 7, 3) := by decide +kernel
theorem dX6_isMask_19 : decode cX6_isMask 19 = .ok (.iconst 0, 1) := by decide +kernel
theorem dX6_isMask_20 : decode cX6_isMask 20 = .ok (.ireturn, 1) := by decide +kernel
set_option maxRecDepth 100000 in
theorem pq2 : Cond.selects RX6 yX6_isBody yX6_isBody ∈ pw := pw_mem (i := 2) (by decide +kernel) rfl
set_option maxRecDepth 100000 in
theorem pq74 : Cond.initialized RX6 ∈ pw := pw_mem (i := 74) (by decide +kernel) rfl
set_option maxRecDepth 100000 in
theorem pq223 : Cond.fieldLink RX6 367 "MaskTouch$Field" "maskCount" "I" ∈ pw := pw_mem (i := 223) (by decide +kernel) rfl
set_option maxRecDepth 100000 in
theorem pq226 : Cond.fieldLink RX6 83 "MaskTouch$Field" "bodyCount" "I" ∈ pw := pw_mem (i := 226) (by decide +kernel) rfl
set_option maxRecDepth 100000 in
theorem pq351 : Cond.fieldLink RX6 20 "MaskTouch" "now" "LMaskTouch$Field;" ∈ pw := pw_mem (i := 351) (by decide +kernel) rfl
set_option maxRecDepth 100000 in
theorem pq636 : Cond.methodLink RX6 86 yX6_isBody ∈ pw := pw_mem (i := 636) (by decide +kernel) rfl
set_option maxRecDepth 100000 in
theorem pq638 : Cond.instanceMethod yX6_isBody ∈ pw := pw_mem (i := 638) (by decide +kernel) rfl
set_option maxRecDepth 100000 in
theorem pq639 : Cond.code yX6_isBody cX6_isBody 2 (some .boolean) ∈ pw := pw_mem (i := 639) (by rfl) rfl
set_option maxHeartbeats 4000000 in
set_option maxRecDepth 100000 in
theorem c_X6_isMask (l : Launch) (dC : Nat → ClassId) (dI : Nat → Nat → Nat) (h0 tp nw dr rd sc sk fl ps sh nm nb : Nat) (sz : Nat) (p0 : Int32) : Met l yX6_isMask (.code yX6_isMask cX6_isMask 2 (some .boolean) :: pw) ({ frames := 0, cells := 0, slots := 0, locals := 0 }) (pc (dC, dI) [.ref h0, .int p0] sz [(h0, .inr (6, [.ref tp, .int 0, .ref nw, .ref dr, .ref rd, .ref sc, .ref sk, .ref fl, .ref ps, .int 0, .int 0, .ref sh])), (nw, .inr (1, [.ref nm, .ref nb, .int 0, .int 0, .int 0]))] []) (va_Qi (fun (r : Int32) (_ : Unit) => r = 0) (fun _ _ => True) (fun _ => False)) 0 0 (fun _ => False) := by
  refine Met.ofW (cc := cX6_isMask) (maxL := 2) (ret := (some .boolean)) (by decide +kernel) rfl ?_
  intro p e s m args below meth c s₁ B hml hv
  obtain ⟨rfl, hsz, hP, hK, hD0, hN⟩ := hv
  have hx := B.exec
  have hb := B.bytes
  have hr := B.returns
  have hts := fun w (h : w ∈ pw) => atoms_spec (ws := Cond.code yX6_isMask cX6_isMask 2 (some .boolean) :: pw) B.pre w (List.mem_cons_of_mem _ h)
  have hown : s.vm.findClass RX6 = some m.cls := findClass_of_methodNamed B.named
  have hlocks := B.notSynchronized
  subst hsz
  have hD := hD0
  obtain ⟨H, hHe⟩ : ∃ H : Heap, H = s.heap := ⟨_, rfl⟩
  have hS : va_S (fun _ => False) s.heap H [] := by rw [hHe]; exact va_S.rf
  rw [← hHe] at hP
  have hl := lv_entry ([.ref h0, .int p0]) (n := 2) (Nat.le_of_ble_eq_true rfl)
  rw [lg_entry_eq]
  generalize (lg_sl ([.ref h0, .int p0]) ++ List.replicate (2 - (lg_sl ([.ref h0, .int p0])).length) Slot.unset).toArray = ls at hl ⊢
  have hl : lv_has ls 2 [(0, .ref h0), (1, .int p0)] := hl
  rw [← hHe]
  refine lv_iload_n hx hb dX6_isMask_0 rfl (lv_at hl 1 rfl) ?_
  refine lv_if_lt (tgt := 19) hx hb dX6_isMask_1 (by decide) (fun c1 => ?_) (fun c1 => ?_)
  · refine lv_iconst (v := 0) hx hb dX6_isMask_19 (by decide +kernel) ?_
    exact W.zret (v := 0) hx hb hr (by decide +kernel) (fun t ht hW => ⟨⟨0, (), rfl, rfl, trivial⟩, hS.F ht⟩) hS.2.2 dX6_isMask_20
  · refine lv_iload_n hx hb dX6_isMask_4 rfl (lv_at hl 1 rfl) ?_
    refine lv_aload_n hx hb dX6_isMask_5 rfl (lv_at hl 0 rfl) ?_
    refine va_get (D := (dC, dI)) (ci := 6) (v := .ref nw) (C := RX6) (T := TX6) (N := 12) hx hb hts inX6 hown hK hP 0 rfl rfl 2 (by decide) (hts _ pq351) (fun _ h9 => h9) rfl dX6_isMask_6 ?_
    refine va_get (D := (dC, dI)) (ci := 1) (v := .int 0) (C := RX1) (T := TX1) (N := 5) hx hb hts inX1 hown hK hP 1 rfl rfl 2 (by decide) (hts _ pq223) (fun _ h9 => h9) rfl dX6_isMask_9 ?_
    refine lv_icmp_ge (tgt := 19) hx hb dX6_isMask_12 (by decide) (fun c2 => ?_) (fun c2 => absurd (Int32.not_lt.mp c1) c2)
    refine lv_iconst (v := 0) hx hb dX6_isMask_19 (by decide +kernel) ?_
    exact W.zret (v := 0) hx hb hr (by decide +kernel) (fun t ht hW => ⟨⟨0, (), rfl, rfl, trivial⟩, hS.F ht⟩) hS.2.2 dX6_isMask_20

set_option maxHeartbeats 4000000 in
set_option maxRecDepth 100000 in
theorem c_X6_isBody (l : Launch) (dC : Nat → ClassId) (dI : Nat → Nat → Nat) (h0 tp nw dr rd sc sk fl ps sh nm nb : Nat) (sz : Nat) (p0 : Int32) : Met l yX6_isBody (.code yX6_isBody cX6_isBody 2 (some .boolean) :: pw) ({ frames := 0, cells := 0, slots := 0, locals := 0 }) (pc (dC, dI) [.ref h0, .int p0] sz [(h0, .inr (6, [.ref tp, .int 0, .ref nw, .ref dr, .ref rd, .ref sc, .ref sk, .ref fl, .ref ps, .int 0, .int 0, .ref sh])), (nw, .inr (1, [.ref nm, .ref nb, .int 0, .int 0, .int 0]))] []) (va_Qi (fun (r : Int32) (_ : Unit) => r = 0) (fun _ _ => True) (fun _ => False)) 0 0 (fun _ => False) := by
  refine Met.ofW (cc := cX6_isBody) (maxL := 2) (ret := (some .boolean)) (by decide +kernel) rfl ?_
  intro p e s m args below meth c s₁ B hml hv
  obtain ⟨rfl, hsz, hP, hK, hD0, hN⟩ := hv
  have hx := B.exec
  have hb := B.bytes
  have hr := B.returns
  have hts := fun w (h : w ∈ pw) => atoms_spec (ws := Cond.code yX6_isBody cX6_isBody 2 (some .boolean) :: pw) B.pre w (List.mem_cons_of_mem _ h)
  have hown : s.vm.findClass RX6 = some m.cls := findClass_of_methodNamed B.named
  have hlocks := B.notSynchronized
  subst hsz
  have hD := hD0
  obtain ⟨H, hHe⟩ : ∃ H : Heap, H = s.heap := ⟨_, rfl⟩
  have hS : va_S (fun _ => False) s.heap H [] := by rw [hHe]; exact va_S.rf
  rw [← hHe] at hP
  have hl := lv_entry ([.ref h0, .int p0]) (n := 2) (Nat.le_of_ble_eq_true rfl)
  rw [lg_entry_eq]
  generalize (lg_sl ([.ref h0, .int p0]) ++ List.replicate (2 - (lg_sl ([.ref h0, .int p0])).length) Slot.unset).toArray = ls at hl ⊢
  have hl : lv_has ls 2 [(0, .ref h0), (1, .int p0)] := hl
  rw [← hHe]
  refine lv_iload_n hx hb dX6_isBody_0 rfl (lv_at hl 1 rfl) ?_
  refine lv_if_lt (tgt := 19) hx hb dX6_isBody_1 (by decide) (fun c1 => ?_) (fun c1 => ?_)
  · refine lv_iconst (v := 0) hx hb dX6_isBody_19 (by decide +kernel) ?_
    exact W.zret (v := 0) hx hb hr (by decide +kernel) (fun t ht hW => ⟨⟨0, (), rfl, rfl, trivial⟩, hS.F ht⟩) hS.2.2 dX6_isBody_20
  · refine lv_iload_n hx hb dX6_isBody_4 rfl (lv_at hl 1 rfl) ?_
    refine lv_aload_n hx hb dX6_isBody_5 rfl (lv_at hl 0 rfl) ?_
    refine va_get (D := (dC, dI)) (ci := 6) (v := .ref nw) (C := RX6) (T := TX6) (N := 12) hx hb hts inX6 hown hK hP 0 rfl rfl 2 (by decide) (hts _ pq351) (fun _ h9 => h9) rfl dX6_isBody_6 ?_
    refine va_get (D := (dC, dI)) (ci := 1) (v := .int 0) (C := RX1) (T := TX1) (N := 5) hx hb hts inX1 hown hK hP 1 rfl rfl 3 (by decide) (hts _ pq226) (fun _ h9 => h9) rfl dX6_isBody_9 ?_
    refine lv_icmp_ge (tgt := 19) hx hb dX6_isBody_12 (by decide) (fun c2 => ?_) (fun c2 => absurd (Int32.not_lt.mp c1) c2)
    refine lv_iconst (v := 0) hx hb dX6_isBody_19 (by decide +kernel) ?_
    exact W.zret (v := 0) hx hb hr (by decide +kernel) (fun t ht hW => ⟨⟨0, (), rfl, rfl, trivial⟩, hS.F ht⟩) hS.2.2 dX6_isBody_20

set_option maxHeartbeats 4000000 in
set_option maxRecDepth 100000 in
theorem c_X6_areTwoBodies (l : Launch) (dC : Nat → ClassId) (dI : Nat → Nat → Nat) (h0 tp nw dr rd sc sk fl ps sh nm nb : Nat) (sz : Nat) (p0 : Int32) (p1 : Int32) : Met l yX6_areTwoBodies (.code yX6_areTwoBodies cX6_areTwoBodies 3 (some .boolean) :: pw) ({ frames := 1, cells := 0, slots := 0, locals := 21 }) (pc (dC, dI) [.ref h0, .int p0, .int p1] sz [(h0, .inr (6, [.ref tp, .int 0, .ref nw, .ref dr, .ref rd, .ref sc, .ref sk, .ref fl, .ref ps, .int 0, .int 0, .ref sh])), (nw, .inr (1, [.ref nm, .ref nb, .int 0, .int 0, .int 0]))] []) (va_Qi (fun (r : Int32) (_ : Unit) => r = 0) (fun _ _ => True) (fun _ => False)) 0 0 (fun _ => False) := by
  refine Met.ofW (cc := cX6_areTwoBodies) (maxL := 3) (ret := (some .boolean)) (by decide +kernel) rfl ?_
  intro p e s m args below meth c s₁ B hml hv
  obtain ⟨rfl, hsz, hP, hK, hD0, hN⟩ := hv
  have hx := B.exec
  have hb := B.bytes
  have hr := B.returns
  have hts := fun w (h : w ∈ pw) => atoms_spec (ws := Cond.code yX6_areTwoBodies cX6_areTwoBodies 3 (some .boolean) :: pw) B.pre w (List.mem_cons_of_mem _ h)
  have hown : s.vm.findClass RX6 = some m.cls := findClass_of_methodNamed B.named
  have hlocks := B.notSynchronized
  subst hsz
  have hD := hD0
  obtain ⟨H, hHe⟩ : ∃ H : Heap, H = s.heap := ⟨_, rfl⟩
  have hS : va_S (fun _ => False) s.heap H [] := by rw [hHe]; exact va_S.rf
  rw [← hHe] at hP
  have hl := lv_entry ([.ref h0, .int p0, .int p1]) (n := 3) (Nat.le_of_ble_eq_true rfl)
  rw [lg_entry_eq]
  generalize (lg_sl ([.ref h0, .int p0, .int p1]) ++ List.replicate (3 - (lg_sl ([.ref h0, .int p0, .int p1])).length) Slot.unset).toArray = ls at hl ⊢
  have hl : lv_has ls 3 [(0, .ref h0), (1, .int p0), (2, .int p1)] := hl
  rw [← hHe]
  refine lv_aload_n hx hb dX6_areTwoBodies_0 rfl (lv_at hl 0 rfl) ?_
  refine lv_iload_n hx hb dX6_areTwoBodies_1 rfl (lv_at hl 1 rfl) ?_
  have hPc := hP.sub (ws' := [(h0, .inr (6, [.ref tp, .int 0, .ref nw, .ref dr, .ref rd, .ref sc, .ref sk, .ref fl, .ref ps, .int 0, .int 0, .ref sh])), (nw, .inr (1, [.ref nm, .ref nb, .int 0, .int 0, .int 0]))]) [0, 1] rfl
  have hDc := hD.sub (ws' := [(h0, .inr (6, [.ref tp, .int 0, .ref nw, .ref dr, .ref rd, .ref sc, .ref sk, .ref fl, .ref ps, .int 0, .int 0, .ref sh])), (nw, .inr (1, [.ref nm, .ref nb, .int 0, .int 0, .int 0]))]) [0, 1] (by decide) rfl
  have hKc := hK.sub (tys' := []) [] rfl
  refine ro_i (va_runV (As := [.int p0]) (rest := []) ⟨hx, hb, hml, hown, hts⟩ (c_X6_isBody l dC dI h0 tp nw dr rd sc sk fl ps sh nm nb H.size p0 ) (cwV 1 hts (gV pq636 pq638 pq2 pq74 pq639) rfl rfl rfl (by decide +kernel) ⟨(Nat.le_of_ble_eq_true rfl), (Nat.le_of_ble_eq_true rfl)⟩) (pc_V hPc hDc hKc hN (va_recv hK hP (ci := 6) (q0 := 0) rfl rfl)) rfl rfl hl.1 rfl (lv_room (Nat.le_of_ble_eq_true rfl)) dX6_areTwoBodies_2 ⟨(Nat.le_of_ble_eq_true rfl), (Nat.le_of_ble_eq_true rfl)⟩) hS hP (fun r1 H locs hr1 hP hS => ?_)
  subst hr1
  refine lv_if_eq (tgt := 25) hx hb dX6_areTwoBodies_5 (by decide) (fun c2 => ?_) (fun c2 => absurd (by decide +kernel) c2)
  refine lv_iconst (v := 0) hx hb dX6_areTwoBodies_25 (by decide +kernel) ?_
  exact W.zret (v := 0) hx hb hr (by decide +kernel) (fun t ht hW => ⟨⟨0, (), rfl, rfl, trivial⟩, hS.F ht⟩) hS.2.2 dX6_areTwoBodies_26

set_option maxHeartbeats 4000000 in
set_option maxRecDepth 100000 in
theorem c_X6_isFrom0To (l : Launch) (dC : Nat → ClassId) (dI : Nat → Nat → Nat) (sz : Nat) (p0 : Int32) (p1 : Int32) : Met l yX6_isFrom0To (.code yX6_isFrom0To cX6_isFrom0To 2 (some .boolean) :: pw) ({ frames := 0, cells := 0, slots := 0, locals := 0 }) (pc (dC, dI) [.int p0, .int p1] sz [] []) (va_Qi (fun (r : Int32) (_ : Unit) => r = if p0 < 0 ∨ p1 < p0 then 0 else 1) (fun _ _ => True) (fun _ => False)) 0 0 (fun _ => False) := by
  refine Met.ofW (cc := cX6_isFrom0To) (maxL := 2) (ret := (some .boolean)) (by decide +kernel) rfl ?_
  intro p e s m args below meth c s₁ B hml hv
  obtain ⟨rfl, hsz, hP, hK, hD0, hN⟩ := hv
  have hx := B.exec
  have hb := B.bytes
  have hr := B.returns
  have hts := fun w (h : w ∈ pw) => atoms_spec (ws := Cond.code yX6_isFrom0To cX6_isFrom0To 2 (some .boolean) :: pw) B.pre w (List.mem_cons_of_mem _ h)
  have hown : s.vm.findClass RX6 = some m.cls := findClass_of_methodNamed B.named
  have hlocks := B.notSynchronized
  subst hsz
  have hD := hD0
  obtain ⟨H, hHe⟩ : ∃ H : Heap, H = s.heap := ⟨_, rfl⟩
  have hS : va_S (fun _ => False) s.heap H [] := by rw [hHe]; exact va_S.rf
  rw [← hHe] at hP
  have hl := lv_entry ([.int p0, .int p1]) (n := 2) (Nat.le_of_ble_eq_true rfl)
  rw [lg_entry_eq]
  generalize (lg_sl ([.int p0, .int p1]) ++ List.replicate (2 - (lg_sl ([.int p0, .int p1])).length) Slot.unset).toArray = ls at hl ⊢
  have hl : lv_has ls 2 [(0, .int p0), (1, .int p1)] := hl
  rw [← hHe]
  refine lv_iload_n hx hb dX6_isFrom0To_0 rfl (lv_at hl 0 rfl) ?_
  refine lv_if_lt (tgt := 13) hx hb dX6_isFrom0To_1 (by decide) (fun c1 => ?_) (fun c1 => ?_)
  · refine lv_iconst (v := 0) hx hb dX6_isFrom0To_13 (by decide +kernel) ?_
    exact W.zret (v := 0) hx hb hr (by decide +kernel) (fun t ht hW => ⟨⟨0, (), rfl, by simp [c1], trivial⟩, hS.F ht⟩) hS.2.2 dX6_isFrom0To_14
  · refine lv_iload_n hx hb dX6_isFrom0To_4 rfl (lv_at hl 0 rfl) ?_
    refine lv_iload_n hx hb dX6_isFrom0To_5 rfl (lv_at hl 1 rfl) ?_
    refine lv_icmp_gt (tgt := 13) hx hb dX6_isFrom0To_6 (by decide) (fun c2 => ?_) (fun c2 => ?_)
    · refine lv_iconst (v := 0) hx hb dX6_isFrom0To_13 (by decide +kernel) ?_
      exact W.zret (v := 0) hx hb hr (by decide +kernel) (fun t ht hW => ⟨⟨0, (), rfl, by simp [c1, c2], trivial⟩, hS.F ht⟩) hS.2.2 dX6_isFrom0To_14
    · refine lv_iconst (v := 1) hx hb dX6_isFrom0To_9 (by decide +kernel) ?_
      refine lv_goto (tgt := 14) hx hb dX6_isFrom0To_10 (by decide) ?_
      exact W.zret (v := 1) hx hb hr (by decide +kernel) (fun t ht hW => ⟨⟨1, (), rfl, by simp [c1, c2], trivial⟩, hS.F ht⟩) hS.2.2 dX6_isFrom0To_14
end
section
abbrev cX3_init : ByteArray := prog_5_method_1_code
abbrev cX0_init : ByteArray := prog_2_method_1_code
abbrev cX1_init : ByteArray := prog_3_method_1_code
def yX1_init : MethodName := ⟨RX1, "<init>", "()V"⟩
theorem dX0_init_0 : decode cX0_init 0 = .ok (.aload_n 0, 1) := by decide +kernel
theorem dX0_init_1 : decode cX0_init 1 = .ok (.invokespecial 1, 3) := by decide +kernel
theorem dX0_init_4 : decode cX0_init 4 = .ok (.return_, 1) := by decide +kernel
theorem dX1_init_0 : decode cX1_init 0 = .ok (.aload_n 0, 1) := by decide +kernel
theorem dX1_init_1 : decode cX1_init 1 = .ok (.invokespecial 3, 3) := by decide +kernel
theorem dX1_init_4 : decode cX1_init 4 = .ok (.aload_n 0, 1) := by decide +kernel
theorem dX1_init_5 : decode cX1_init 5 = .ok (.bipush 8, 2) := by decide +kernel
theorem dX1_init_7 : decode cX1_init 7 = .ok (.anewarray 9, 3) := by decide +kernel
theorem dX1_init_10 : decode cX1_init 10 = .ok (.putfield 11, 3) := by decide +kernel
theorem dX1_init_13 : decode cX1_init 13 = .ok (.aload_n 0, 1) := by decide +kernel
theorem dX1_init_14 : decode cX1_init 14 = .ok (.bipush 10, 2) := by decide +kernel
theorem dX1_init_16 : decode cX1_init 16 = .ok (.anewarray 17, 3) := by decide +kernel
theorem dX1_init_19 : decode cX1_init 19 = .ok (.putfield 19, 3) := by decide +kernel
theorem dX1_init_22 : decode cX1_init 22 = .ok (.aload_n 0, 1) := by decide +kernel
theorem dX1_init_23 : decode cX1_init 23 = .ok (.iconst 0, 1) := by decide +kernel
theorem dX1_init_24 : decode cX1_init 24 = .ok (.putfield 23, 3) := by decide +kernel
theorem dX1_init_27 : decode cX1_init 27 = .ok (.aload_n 0, 1) := by decide +kernel
theorem dX1_init_28 : decode cX1_init 28 = .ok (.iconst 0, 1) := by decide +kernel
theorem dX1_init_29 : decode cX1_init 29 = .ok (.putfield 27, 3) := by decide +kernel
theorem dX1_init_32 : decode cX1_init 32 = .ok (.aload_n 0, 1) := by decide +kernel
theorem dX1_init_33 : decode cX1_init 33 = .ok (.iconst 0, 1) := by decide +kernel
theorem dX1_init_34 : decode cX1_init 34 = .ok (.putfield 30, 3) := by decide +kernel
theorem dX1_init_37 : decode cX1_init 37 = .ok (.iconst 0, 1) := by decide +kernel
theorem dX1_init_38 : decode cX1_init 38 = .ok (.istore_n 1, 1) := by decide +kernel
theorem dX1_init_39 : decode cX1_init 39 = .ok (.iload_n 1, 1) := by decide +kernel
theorem dX1_init_40 : decode cX1_init 40 = .ok (.bipush 8, 2) := by decide +kernel
theorem dX1_init_42 : decode cX1_init 42 = .ok (.if_icmp .ge 22, 3) := by decide +kernel
theorem dX1_init_45 : decode cX1_init 45 = .ok (.aload_n 0, 1) := by decide +kernel
theorem dX1_init_46 : decode cX1_init 46 = .ok (.getfield 11, 3) := by decide +kernel
theorem dX1_init_49 : decode cX1_init 49 = .ok (.iload_n 1, 1) := by decide +kernel
theorem dX1_init_50 : decode cX1_init 50 = .ok (.new 9, 3) := by decide +kernel
theorem dX1_init_53 : decode cX1_init 53 = .ok (.dup, 1) := by decide +kernel
theorem dX1_init_54 : decode cX1_init 54 = .ok (.invokespecial 33, 3) := by decide +kernel
theorem dX1_init_57 : decode cX1_init 57 = .ok (.aastore, 1) := by decide +kernel
theorem dX1_init_58 : decode cX1_init 58 = .ok (.iinc 1 1, 3) := by decide +kernel
theorem dX1_init_61 : decode cX1_init 61 = .ok (.goto (-22), 3) := by decide +kernel
theorem dX1_init_64 : decode cX1_init 64 = .ok (.iconst 0, 1) := by decide +kernel
theorem dX1_init_65 : decode cX1_init 65 = .ok (.istore_n 1, 1) := by decide +kernel
theorem dX1_init_66 : decode cX1_init 66 = .ok (.iload_n 1, 1) := by decide +kernel
theorem dX1_init_67 : decode cX1_init 67 = .ok (.bipush 10, 2) := by decide +kernel
theorem dX1_init_69 : decode cX1_init 69 = .ok (.if_icmp .ge 22, 3) := by decide +kernel
theorem dX1_init_72 : decode cX1_init 72 = .ok (.aload_n 0, 1) := by decide +kernel
theorem dX1_init_73 : decode cX1_init 73 = .ok (.getfield 19, 3) := by decide +kernel
theorem dX1_init_76 : decode cX1_init 76 = .ok (.iload_n 1, 1) := by decide +kernel
theorem dX1_init_77 : decode cX1_init 77 = .ok (.new 17, 3) := by decide +kernel
theorem dX1_init_80 : decode cX1_init 80 = .ok (.dup, 1) := by decide +kernel
theorem dX1_init_81 : decode cX1_init 81 = .ok (.invokespecial 34, 3) := by decide +kernel
theorem dX1_init_84 : decode cX1_init 84 = .ok (.aastore, 1) := by decide +kernel
theorem dX1_init_85 : decode cX1_init 85 = .ok (.iinc 1 1, 3) := by decide +kernel
theorem dX1_init_88 : decode cX1_init 88 = .ok (.goto (-22), 3) := by decide +kernel
theorem dX1_init_91 : decode cX1_init 91 = .ok (.return_, 1) := by decide +kernel
theorem dX3_init_0 : decode cX3_init 0 = .ok (.aload_n 0, 1) := by decide +kernel
theorem dX3_init_1 : decode cX3_init 1 = .ok (.invokespecial 3, 3) := by decide +kernel
theorem dX3_init_4 : decode cX3_init 4 = .ok (.aload_n 0, 1) := by decide +kernel
theorem dX3_init_5 : decode cX3_init 5 = .ok (.bipush 80, 2) := by decide +kernel
theorem dX3_init_7 : decode cX3_init 7 = .ok (.newarray .long, 2) := by decide +kernel
theorem dX3_init_9 : decode cX3_init 9 = .ok (.putfield 9, 3) := by decide +kernel
theorem dX3_init_12 : decode cX3_init 12 = .ok (.return_, 1) := by decide +kernel
set_option maxRecDepth 100000 in
theorem pq76 : Cond.initialized RX3 ∈ pw := pw_mem (i := 76) (by decide +kernel) rfl
set_option maxRecDepth 100000 in
theorem pq77 : Cond.initialized RX0 ∈ pw := pw_mem (i := 77) (by decide +kernel) rfl
set_option maxRecDepth 100000 in
theorem pq99 : Cond.instanceMethod objectInit ∈ pw := pw_mem (i := 99) (by decide +kernel) rfl
set_option maxRecDepth 100000 in
theorem pq100 : Cond.code objectInit ⟨#[0xb1]⟩ 1 none ∈ pw := pw_mem (i := 100) (by rfl) rfl
set_option maxRecDepth 100000 in
theorem pq106 : Cond.methodLink RX1 3 objectInit ∈ pw := pw_mem (i := 106) (by decide +kernel) rfl
set_option maxRecDepth 100000 in
theorem pq107 : Cond.classLink RX1 9 RX3 ∈ pw := pw_mem (i := 107) (by decide +kernel) rfl
set_option maxRecDepth 100000 in
theorem pq109 : Cond.classLink RX1 17 RX0 ∈ pw := pw_mem (i := 109) (by decide +kernel) rfl
set_option maxRecDepth 100000 in
theorem pq111 : Cond.instantiable RX3 8 ∈ pw := pw_mem (i := 111) (by decide +kernel) rfl
set_option maxRecDepth 100000 in
theorem pq113 : Cond.instanceMethod yX3_init ∈ pw := pw_mem (i := 113) (by decide +kernel) rfl
set_option maxRecDepth 100000 in
theorem pq114 : Cond.code yX3_init cX3_init 1 none ∈ pw := pw_mem (i := 114) (by rfl) rfl
set_option maxRecDepth 100000 in
theorem pq115 : Cond.methodLink RX3 3 objectInit ∈ pw := pw_mem (i := 115) (by decide +kernel) rfl
set_option maxRecDepth 100000 in
theorem pq124 : Cond.fieldLink RX3 9 "MaskTouch$Mask" "words" "[J" ∈ pw := pw_mem (i := 124) (by decide +kernel) rfl
set_option maxRecDepth 100000 in
theorem pq163 : Cond.arrayClass .long ∈ pw := pw_mem (i := 163) (by decide +kernel) rfl
set_option maxRecDepth 100000 in
theorem pq164 : Cond.instantiable RX0 8 ∈ pw := pw_mem (i := 164) (by decide +kernel) rfl
set_option maxRecDepth 100000 in
theorem pq166 : Cond.instanceMethod yX0_init ∈ pw := pw_mem (i := 166) (by decide +kernel) rfl
set_option maxRecDepth 100000 in
theorem pq167 : Cond.code yX0_init cX0_init 1 none ∈ pw := pw_mem (i := 167) (by rfl) rfl
set_option maxRecDepth 100000 in
theorem pq168 : Cond.methodLink RX0 1 objectInit ∈ pw := pw_mem (i := 168) (by decide +kernel) rfl
set_option maxRecDepth 100000 in
theorem pq213 : Cond.fieldLink RX1 11 "MaskTouch$Field" "masks" "[LMaskTouch$Mask;" ∈ pw := pw_mem (i := 213) (by decide +kernel) rfl
set_option maxRecDepth 100000 in
theorem pq217 : Cond.fieldLink RX1 19 "MaskTouch$Field" "bodies" "[LMaskTouch$Body;" ∈ pw := pw_mem (i := 217) (by decide +kernel) rfl
set_option maxRecDepth 100000 in
theorem pq221 : Cond.fieldLink RX1 23 "MaskTouch$Field" "maskCount" "I" ∈ pw := pw_mem (i := 221) (by decide +kernel) rfl
set_option maxRecDepth 100000 in
theorem pq224 : Cond.fieldLink RX1 27 "MaskTouch$Field" "bodyCount" "I" ∈ pw := pw_mem (i := 224) (by decide +kernel) rfl
set_option maxRecDepth 100000 in
theorem pq228 : Cond.fieldLink RX1 30 "MaskTouch$Field" "tickCount" "I" ∈ pw := pw_mem (i := 228) (by decide +kernel) rfl
set_option maxHeartbeats 4000000 in
set_option maxRecDepth 100000 in
theorem c_X0_init (l : Launch) (dC : Nat → ClassId) (dI : Nat → Nat → Nat) (h0 : Nat) (sz : Nat) : Met l yX0_init (.code yX0_init cX0_init 1 none :: pw) ({ frames := 1, cells := 0, slots := 0, locals := 12 }) (pc (dC, dI) [.ref h0] sz [(h0, .inr (0, [.int 0, .int 0, .int 0, .int 0, .int 0, .int 0, .int 0, .int 0]))] []) (va_Qv (fun (_ : Unit) => True) (fun _ _ => True) (fun _ => False)) 0 0 (fun _ => False) := by
  refine Met.ofW (cc := cX0_init) (maxL := 1) (ret := none) (by decide +kernel) rfl ?_
  intro p e s m args below meth c s₁ B hml hv
  obtain ⟨rfl, hsz, hP, hK, hD0, hN⟩ := hv
  have hx := B.exec
  have hb := B.bytes
  have hr := B.returns
  have hts := fun w (h : w ∈ pw) => atoms_spec (ws := Cond.code yX0_init cX0_init 1 none :: pw) B.pre w (List.mem_cons_of_mem _ h)
  have hown : s.vm.findClass RX0 = some m.cls := findClass_of_methodNamed B.named
  have hlocks := B.notSynchronized
  have hin : meth.name = "<init>" := (name_of_methodNamed B.named B.method).1
  subst hsz
  have hD := hD0
  obtain ⟨H, hHe⟩ : ∃ H : Heap, H = s.heap := ⟨_, rfl⟩
  have hS : va_S (fun _ => False) s.heap H [] := by rw [hHe]; exact va_S.rf
  rw [← hHe] at hP
  have hl := lv_entry ([.ref h0]) (n := 1) (Nat.le_of_ble_eq_true rfl)
  rw [lg_entry_eq]
  generalize (lg_sl ([.ref h0]) ++ List.replicate (1 - (lg_sl ([.ref h0])).length) Slot.unset).toArray = ls at hl ⊢
  have hl : lv_has ls 1 [(0, .ref h0)] := hl
  rw [← hHe]
  refine lv_aload_n hx hb dX0_init_0 rfl (lv_at hl 0 rfl) ?_
  refine W.objInit hx hb hown (hts _ pq168) (hts _ pq99) (hts _ pq100) rfl (by rw [hml]; exact hl.1) rfl dX0_init_1 (Nat.le_of_ble_eq_true rfl) (Nat.le_of_ble_eq_true rfl) ?_
  refine W.eq (g2 := F0 m 4 ls []) rfl ?_
  exact W.vret hx hb hr (fun t ht hW => ⟨⟨(), rfl, trivial, trivial⟩, hS.F ht⟩) hS.2.2 dX0_init_4

set_option maxHeartbeats 4000000 in
set_option maxRecDepth 100000 in
theorem c_X3_init (l : Launch) (dC : Nat → ClassId) (dI : Nat → Nat → Nat) (h0 : Nat) (sz : Nat) : Met l yX3_init (.code yX3_init cX3_init 1 none :: pw) ({ frames := 1, cells := 1, slots := 80, locals := 12 }) (pc (dC, dI) [.ref h0] sz [(h0, .inr (3, [.int 0, .int 0, .null, .int 0, .int 0, .int 0, .int 0, .int 0]))] []) (va_Qv (fun (_ : Unit) => True) (fun _ t => ∃ (w : Nat), wB (dC, dI) [(h0, .inr (3, [.int 0, .int 0, .ref w, .int 0, .int 0, .int 0, .int 0, .int 0]))] [] (va_A [(h0, .inr (3, [.int 0, .int 0, .null, .int 0, .int 0, .int 0, .int 0, .int 0]))] sz) t) (va_A [(h0, .inr (3, [.int 0, .int 0, .null, .int 0, .int 0, .int 0, .int 0, .int 0]))] sz)) 1 80 (va_A [(h0, .inr (3, [.int 0, .int 0, .null, .int 0, .int 0, .int 0, .int 0, .int 0]))] sz) := by
  refine Met.ofW (cc := cX3_init) (maxL := 1) (ret := none) (by decide +kernel) rfl ?_
  intro p e s m args below meth c s₁ B hml hv
  obtain ⟨rfl, hsz, hP, hK, hD0, hN⟩ := hv
  have hx := B.exec
  have hb := B.bytes
  have hr := B.returns
  have hts := fun w (h : w ∈ pw) => atoms_spec (ws := Cond.code yX3_init cX3_init 1 none :: pw) B.pre w (List.mem_cons_of_mem _ h)
  have hown : s.vm.findClass RX3 = some m.cls := findClass_of_methodNamed B.named
  have hlocks := B.notSynchronized
  have hin : meth.name = "<init>" := (name_of_methodNamed B.named B.method).1
  subst hsz
  have hD := hD0.self (sz := s.heap.size)
  generalize hAe : va_A [(h0, .inr (3, [.int 0, .int 0, .null, .int 0, .int 0, .int 0, .int 0, .int 0]))] s.heap.size = A at hD ⊢
  have hA : ∀ q : Nat, s.heap.size ≤ q → A q := fun q h => by rw [← hAe]; exact Or.inr h
  obtain ⟨H, hHe⟩ : ∃ H : Heap, H = s.heap := ⟨_, rfl⟩
  have hS : va_S A s.heap H [] := by rw [hHe]; exact va_S.rf
  rw [← hHe] at hP
  have hl := lv_entry ([.ref h0]) (n := 1) (Nat.le_of_ble_eq_true rfl)
  rw [lg_entry_eq]
  generalize (lg_sl ([.ref h0]) ++ List.replicate (1 - (lg_sl ([.ref h0])).length) Slot.unset).toArray = ls at hl ⊢
  have hl : lv_has ls 1 [(0, .ref h0)] := hl
  rw [← hHe]
  refine lv_aload_n hx hb dX3_init_0 rfl (lv_at hl 0 rfl) ?_
  refine W.objInit hx hb hown (hts _ pq115) (hts _ pq99) (hts _ pq100) rfl (by rw [hml]; exact hl.1) rfl dX3_init_1 (Nat.le_of_ble_eq_true rfl) (Nat.le_of_ble_eq_true rfl) ?_
  refine W.eq (g2 := F0 m 4 ls []) rfl ?_
  refine lv_aload_n hx hb dX3_init_4 rfl (lv_at hl 0 rfl) ?_
  refine lv_bipush (v := 80) hx hb dX3_init_5 (by decide +kernel) ?_
  refine va_newa (atype := .long) (ty := .long) (a0 := (80, .inr (.inl (fun _ => 0)))) hx hb (hts _ pq163) rfl hK hP hD hS hA (fun _ => rfl) (by decide +kernel) (by decide +kernel) (Nat.le_of_ble_eq_true rfl) (Nat.le_of_ble_eq_true rfl) (Nat.le_of_ble_eq_true rfl) dX3_init_7 (fun q1 k2 H hK hP hD hS => ?_)
  have hP : va_P (dC, dI) vwCl [(h0, .inr (3, [.int 0, .int 0, .null, .int 0, .int 0, .int 0, .int 0, .int 0])), (q1, .inl (k2, 80, .inr (.inl (fun _ => 0))))] H := hP
  have hD : va_D A [(h0, .inr (3, [.int 0, .int 0, .null, .int 0, .int 0, .int 0, .int 0, .int 0])), (q1, .inl (k2, 80, .inr (.inl (fun _ => 0))))] := hD
  have hK : va_K (dC, dI) vwCl [(k2, .long)] s := hK
  refine W.widen (k := 1) (n := 80) (Nat.le_of_ble_eq_true rfl) (Nat.le_of_ble_eq_true rfl) ?_
  refine va_putF (D := (dC, dI)) (ci := 3) (v := .ref q1) (ty := tyX3 2) (C := RX3) (T := TX3) (N := 8) hx hb hts inX3 tyX3 tyX3_ok nmX3 hown hK hP hD hS 0 rfl rfl 2 (by decide) (hts _ pq124) (fun _ h9 => h9) rfl hin rfl (by decide +kernel) rfl rfl (Nat.le_of_ble_eq_true rfl) dX3_init_9 (fun H locs hP hD hS => ?_)
  have hP : va_P (dC, dI) vwCl [(h0, .inr (3, [.int 0, .int 0, .ref q1, .int 0, .int 0, .int 0, .int 0, .int 0])), (q1, .inl (k2, 80, .inr (.inl (fun _ => 0))))] H := hP
  have hD : va_D A [(h0, .inr (3, [.int 0, .int 0, .ref q1, .int 0, .int 0, .int 0, .int 0, .int 0])), (q1, .inl (k2, 80, .inr (.inl (fun _ => 0))))] := hD
  have hP9 := hP.sub (ws' := [(h0, .inr (3, [.int 0, .int 0, .ref q1, .int 0, .int 0, .int 0, .int 0, .int 0]))]) [0] rfl
  have hD9 := hD.sub (ws' := [(h0, .inr (3, [.int 0, .int 0, .ref q1, .int 0, .int 0, .int 0, .int 0, .int 0]))]) [0] (by decide) rfl
  have hK9 := hK.sub (tys' := []) [] rfl
  exact W.vret hx hb hr (fun t ht hW => ⟨⟨(), rfl, trivial, ⟨q1, by rw [ht]; exact hP9, va_K.moved hW.alike hK9, hD9⟩⟩, hS.F ht⟩) hS.2.2 dX3_init_12

set_option maxHeartbeats 4000000 in
set_option maxRecDepth 100000 in
theorem c_X1_init (l : Launch) (dC : Nat → ClassId) (dI : Nat → Nat → Nat) (h0 : Nat) (sz : Nat) : Met l yX1_init (.code yX1_init cX1_init 2 none :: pw) ({ frames := 2, cells := 28, slots := 802, locals := 32 }) (pc (dC, dI) [.ref h0] sz [(h0, .inr (1, [.null, .null, .int 0, .int 0, .int 0]))] []) (va_Qv (fun (_ : Unit) => True) (fun _ t => ∃ (m : Nat), ∃ (b : Nat), wB (dC, dI) [(h0, .inr (1, [.ref m, .ref b, .int 0, .int 0, .int 0]))] [] (va_A [(h0, .inr (1, [.null, .null, .int 0, .int 0, .int 0]))] sz) t) (va_A [(h0, .inr (1, [.null, .null, .int 0, .int 0, .int 0]))] sz)) 28 802 (va_A [(h0, .inr (1, [.null, .null, .int 0, .int 0, .int 0]))] sz) := by
  refine Met.ofW (cc := cX1_init) (maxL := 2) (ret := none) (by decide +kernel) rfl ?_
  intro p e s m args below meth c s₁ B hml hv
  obtain ⟨rfl, hsz, hP, hK, hD0, hN⟩ := hv
  have hx := B.exec
  have hb := B.bytes
  have hr := B.returns
  have hts := fun w (h : w ∈ pw) => atoms_spec (ws := Cond.code yX1_init cX1_init 2 none :: pw) B.pre w (List.mem_cons_of_mem _ h)
  have hown : s.vm.findClass RX1 = some m.cls := findClass_of_methodNamed B.named
  have hlocks := B.notSynchronized
  have hin : meth.name = "<init>" := (name_of_methodNamed B.named B.method).1
  subst hsz
  have hD := hD0.self (sz := s.heap.size)
  generalize hAe : va_A [(h0, .inr (1, [.null, .null, .int 0, .int 0, .int 0]))] s.heap.size = A at hD ⊢
  have hA : ∀ q : Nat, s.heap.size ≤ q → A q := fun q h => by rw [← hAe]; exact Or.inr h
  obtain ⟨H, hHe⟩ : ∃ H : Heap, H = s.heap := ⟨_, rfl⟩
  have hS : va_S A s.heap H [] := by rw [hHe]; exact va_S.rf
  rw [← hHe] at hP
  have hl := lv_entry ([.ref h0]) (n := 2) (Nat.le_of_ble_eq_true rfl)
  rw [lg_entry_eq]
  generalize (lg_sl ([.ref h0]) ++ List.replicate (2 - (lg_sl ([.ref h0])).length) Slot.unset).toArray = ls at hl ⊢
  have hl : lv_has ls 2 [(0, .ref h0)] := hl
  rw [← hHe]
  refine lv_aload_n hx hb dX1_init_0 rfl (lv_at hl 0 rfl) ?_
  refine W.objInit hx hb hown (hts _ pq106) (hts _ pq99) (hts _ pq100) rfl (by rw [hml]; exact hl.1) rfl dX1_init_1 (Nat.le_of_ble_eq_true rfl) (Nat.le_of_ble_eq_true rfl) ?_
  refine W.eq (g2 := F0 m 4 ls []) rfl ?_
  refine lv_aload_n hx hb dX1_init_4 rfl (lv_at hl 0 rfl) ?_
  refine lv_bipush (v := 8) hx hb dX1_init_5 (by decide +kernel) ?_
  refine va_newq (C := RX3) (n := 8) (N' := 8) hx hb hown (hts _ pq107) (xN_aoX3 hN) hK hP hD hS hA (by decide +kernel) (by decide +kernel) (Nat.le_of_ble_eq_true rfl) (Nat.le_of_ble_eq_true rfl) (Nat.le_of_ble_eq_true rfl) dX1_init_7 (fun q1 k2 H hK hP hD hS => ?_)
  have hP : va_P (dC, dI) vwCl [(h0, .inr (1, [.null, .null, .int 0, .int 0, .int 0])), (q1, .inl (k2, 8, .inr (.inr (.inr (.inr (fun _ => none))))))] H := hP
  have hD : va_D A [(h0, .inr (1, [.null, .null, .int 0, .int 0, .int 0])), (q1, .inl (k2, 8, .inr (.inr (.inr (.inr (fun _ => none))))))] := hD
  have hK : va_K (dC, dI) vwCl [(k2, .object RX3)] s := hK
  refine W.widen (k := 1) (n := 8) (Nat.le_of_ble_eq_true rfl) (Nat.le_of_ble_eq_true rfl) ?_
  refine va_putF (D := (dC, dI)) (ci := 1) (v := .ref q1) (ty := tyX1 0) (C := RX1) (T := TX1) (N := 5) hx hb hts inX1 tyX1 tyX1_ok nmX1 hown hK hP hD hS 0 rfl rfl 0 (by decide) (hts _ pq213) (fun _ h9 => h9) rfl hin rfl (by decide +kernel) rfl rfl (Nat.le_of_ble_eq_true rfl) dX1_init_10 (fun H locs hP hD hS => ?_)
  have hP : va_P (dC, dI) vwCl [(h0, .inr (1, [.ref q1, .null, .int 0, .int 0, .int 0])), (q1, .inl (k2, 8, .inr (.inr (.inr (.inr (fun _ => none))))))] H := hP
  have hD : va_D A [(h0, .inr (1, [.ref q1, .null, .int 0, .int 0, .int 0])), (q1, .inl (k2, 8, .inr (.inr (.inr (.inr (fun _ => none))))))] := hD
  refine lv_aload_n hx hb dX1_init_13 rfl (lv_at hl 0 rfl) ?_
  refine lv_bipush (v := 10) hx hb dX1_init_14 (by decide +kernel) ?_
  refine va_newq (C := RX0) (n := 10) (N' := 10) hx hb hown (hts _ pq109) (xN_aoX0 hN) hK hP hD hS hA (by decide +kernel) (by decide +kernel) (Nat.le_of_ble_eq_true rfl) (Nat.le_of_ble_eq_true rfl) (Nat.le_of_ble_eq_true rfl) dX1_init_16 (fun q3 k4 H hK hP hD hS => ?_)
  have hP : va_P (dC, dI) vwCl [(h0, .inr (1, [.ref q1, .null, .int 0, .int 0, .int 0])), (q1, .inl (k2, 8, .inr (.inr (.inr (.inr (fun _ => none)))))), (q3, .inl (k4, 10, .inr (.inr (.inr (.inr (fun _ => none))))))] H := hP
  have hD : va_D A [(h0, .inr (1, [.ref q1, .null, .int 0, .int 0, .int 0])), (q1, .inl (k2, 8, .inr (.inr (.inr (.inr (fun _ => none)))))), (q3, .inl (k4, 10, .inr (.inr (.inr (.inr (fun _ => none))))))] := hD
  have hK : va_K (dC, dI) vwCl [(k2, .object RX3), (k4, .object RX0)] s := hK
  refine W.widen (k := 2) (n := 18) (Nat.le_of_ble_eq_true rfl) (Nat.le_of_ble_eq_true rfl) ?_
  refine va_putF (D := (dC, dI)) (ci := 1) (v := .ref q3) (ty := tyX1 1) (C := RX1) (T := TX1) (N := 5) hx hb hts inX1 tyX1 tyX1_ok nmX1 hown hK hP hD hS 0 rfl rfl 1 (by decide) (hts _ pq217) (fun _ h9 => h9) rfl hin rfl (by decide +kernel) rfl rfl (Nat.le_of_ble_eq_true rfl) dX1_init_19 (fun H locs hP hD hS => ?_)
  have hP : va_P (dC, dI) vwCl [(h0, .inr (1, [.ref q1, .ref q3, .int 0, .int 0, .int 0])), (q1, .inl (k2, 8, .inr (.inr (.inr (.inr (fun _ => none)))))), (q3, .inl (k4, 10, .inr (.inr (.inr (.inr (fun _ => none))))))] H := hP
  have hD : va_D A [(h0, .inr (1, [.ref q1, .ref q3, .int 0, .int 0, .int 0])), (q1, .inl (k2, 8, .inr (.inr (.inr (.inr (fun _ => none)))))), (q3, .inl (k4, 10, .inr (.inr (.inr (.inr (fun _ => none))))))] := hD
  refine lv_aload_n hx hb dX1_init_22 rfl (lv_at hl 0 rfl) ?_
  refine lv_iconst (v := 0) hx hb dX1_init_23 (by decide +kernel) ?_
  refine va_put (D := (dC, dI)) (ci := 1) (v := .int 0) (ty := tyX1 2) (C := RX1) (T := TX1) (N := 5) hx hb hts inX1 tyX1 tyX1_ok nmX1 hown hK hP hD hS 0 rfl rfl 2 (by decide) (hts _ pq221) (fun _ h9 => h9) rfl (by decide +kernel) rfl rfl (Nat.le_of_ble_eq_true rfl) dX1_init_24 (fun H locs hP hD hS => ?_)
  have hP : va_P (dC, dI) vwCl [(h0, .inr (1, [.ref q1, .ref q3, .int 0, .int 0, .int 0])), (q1, .inl (k2, 8, .inr (.inr (.inr (.inr (fun _ => none)))))), (q3, .inl (k4, 10, .inr (.inr (.inr (.inr (fun _ => none))))))] H := hP
  have hD : va_D A [(h0, .inr (1, [.ref q1, .ref q3, .int 0, .int 0, .int 0])), (q1, .inl (k2, 8, .inr (.inr (.inr (.inr (fun _ => none)))))), (q3, .inl (k4, 10, .inr (.inr (.inr (.inr (fun _ => none))))))] := hD
  refine lv_aload_n hx hb dX1_init_27 rfl (lv_at hl 0 rfl) ?_
  refine lv_iconst (v := 0) hx hb dX1_init_28 (by decide +kernel) ?_
  refine va_put (D := (dC, dI)) (ci := 1) (v := .int 0) (ty := tyX1 3) (C := RX1) (T := TX1) (N := 5) hx hb hts inX1 tyX1 tyX1_ok nmX1 hown hK hP hD hS 0 rfl rfl 3 (by decide) (hts _ pq224) (fun _ h9 => h9) rfl (by decide +kernel) rfl rfl (Nat.le_of_ble_eq_true rfl) dX1_init_29 (fun H locs hP hD hS => ?_)
  have hP : va_P (dC, dI) vwCl [(h0, .inr (1, [.ref q1, .ref q3, .int 0, .int 0, .int 0])), (q1, .inl (k2, 8, .inr (.inr (.inr (.inr (fun _ => none)))))), (q3, .inl (k4, 10, .inr (.inr (.inr (.inr (fun _ => none))))))] H := hP
  have hD : va_D A [(h0, .inr (1, [.ref q1, .ref q3, .int 0, .int 0, .int 0])), (q1, .inl (k2, 8, .inr (.inr (.inr (.inr (fun _ => none)))))), (q3, .inl (k4, 10, .inr (.inr (.inr (.inr (fun _ => none))))))] := hD
  refine lv_aload_n hx hb dX1_init_32 rfl (lv_at hl 0 rfl) ?_
  refine lv_iconst (v := 0) hx hb dX1_init_33 (by decide +kernel) ?_
  refine va_put (D := (dC, dI)) (ci := 1) (v := .int 0) (ty := tyX1 4) (C := RX1) (T := TX1) (N := 5) hx hb hts inX1 tyX1 tyX1_ok nmX1 hown hK hP hD hS 0 rfl rfl 4 (by decide) (hts _ pq228) (fun _ h9 => h9) rfl (by decide +kernel) rfl rfl (Nat.le_of_ble_eq_true rfl) dX1_init_34 (fun H locs hP hD hS => ?_)
  have hP : va_P (dC, dI) vwCl [(h0, .inr (1, [.ref q1, .ref q3, .int 0, .int 0, .int 0])), (q1, .inl (k2, 8, .inr (.inr (.inr (.inr (fun _ => none)))))), (q3, .inl (k4, 10, .inr (.inr (.inr (.inr (fun _ => none))))))] H := hP
  have hD : va_D A [(h0, .inr (1, [.ref q1, .ref q3, .int 0, .int 0, .int 0])), (q1, .inl (k2, 8, .inr (.inr (.inr (.inr (fun _ => none)))))), (q3, .inl (k4, 10, .inr (.inr (.inr (.inr (fun _ => none))))))] := hD
  refine lv_iconst (v := 0) hx hb dX1_init_37 (by decide +kernel) ?_
  refine lv_istore_n (lv' := [(1, .int 0), (0, .ref h0)]) hx hb dX1_init_38 rfl hl (by decide) rfl (fun ls hl => ?_)
  refine lv_iload_n hx hb dX1_init_39 rfl (lv_at hl 0 rfl) ?_
  refine lv_bipush (v := 8) hx hb dX1_init_40 (by decide +kernel) ?_
  refine lv_icmp_ge (tgt := 64) hx hb dX1_init_42 (by decide) (fun c5 => absurd c5 (by decide +kernel)) (fun c5 => ?_)
  refine lv_aload_n hx hb dX1_init_45 rfl (lv_at hl 1 rfl) ?_
  refine va_get (D := (dC, dI)) (ci := 1) (v := .ref q1) (C := RX1) (T := TX1) (N := 5) hx hb hts inX1 hown hK hP 0 rfl rfl 0 (by decide) (hts _ pq213) (fun _ h9 => h9) rfl dX1_init_46 ?_
  refine lv_iload_n hx hb dX1_init_49 rfl (lv_at hl 0 rfl) ?_
  refine va_new (ci := 3) (fs := [.int 0, .int 0, .null, .int 0, .int 0, .int 0, .int 0, .int 0]) (C := RX3) (T := TX3) (N := 8) hx hb hts inX3 tyX3 tyX3_ok hown (hts _ pq107) (hts _ pq111) (hts _ pq76) hK hP hD hS hA rfl dfX3 (Nat.le_of_ble_eq_true rfl) (Nat.le_of_ble_eq_true rfl) dX1_init_50 (fun q6 H hP hD hS => ?_)
  have hP : va_P (dC, dI) vwCl [(h0, .inr (1, [.ref q1, .ref q3, .int 0, .int 0, .int 0])), (q1, .inl (k2, 8, .inr (.inr (.inr (.inr (fun _ => none)))))), (q3, .inl (k4, 10, .inr (.inr (.inr (.inr (fun _ => none)))))), (q6, .inr (3, [.int 0, .int 0, .null, .int 0, .int 0, .int 0, .int 0, .int 0]))] H := hP
  have hD : va_D A [(h0, .inr (1, [.ref q1, .ref q3, .int 0, .int 0, .int 0])), (q1, .inl (k2, 8, .inr (.inr (.inr (.inr (fun _ => none)))))), (q3, .inl (k4, 10, .inr (.inr (.inr (.inr (fun _ => none)))))), (q6, .inr (3, [.int 0, .int 0, .null, .int 0, .int 0, .int 0, .int 0, .int 0]))] := hD
  refine W.widen (k := 3) (n := 26) (Nat.le_of_ble_eq_true rfl) (Nat.le_of_ble_eq_true rfl) ?_
  refine lv_dup hx hb dX1_init_53 rfl ?_
  have hPc := hP.sub (ws' := [(q6, .inr (3, [.int 0, .int 0, .null, .int 0, .int 0, .int 0, .int 0, .int 0]))]) [3] rfl
  have hDc := hD.sub (ws' := [(q6, .inr (3, [.int 0, .int 0, .null, .int 0, .int 0, .int 0, .int 0, .int 0]))]) [3] (by decide) rfl
  have hKc := hK.sub (tys' := []) [] rfl
  have hFc := va_free (wc := [(q6, .inr (3, [.int 0, .int 0, .null, .int 0, .int 0, .int 0, .int 0, .int 0]))]) hD hS hA [3] rfl
  refine va_callv (va_runIN (As := []) (rest := [.ref q6, .int 0, .ref q1]) ⟨hx, hb, hml, hown, hts⟩ (c_X3_init l dC dI q6 H.size  ) ⟨va_cnB 0 hts (gI pq114) rfl rfl rfl (xN_X1_33 hN) (hts _ pq76) (by decide +kernel) ⟨(Nat.le_of_ble_eq_true rfl), (Nat.le_of_ble_eq_true rfl)⟩, rfl, hts _ pq113⟩ (pc_S hPc hDc hKc hN) rfl rfl hl.1 rfl (lv_room (Nat.le_of_ble_eq_true rfl)) dX1_init_54 ⟨(Nat.le_of_ble_eq_true rfl), (Nat.le_of_ble_eq_true rfl)⟩) hS (fun q _ h => hFc q h) hFc (fun u t H1 locs ht hvm hw hB hz1 hk1 hS => ?_)
  obtain ⟨q7, hP1, hK1, hD1⟩ := hB
  rw [ht] at hP1
  have hK1 := va_K.moved hvm.symm hK1
  obtain ⟨hP, hD⟩ := va_join (wr := [(h0, .inr (1, [.ref q1, .ref q3, .int 0, .int 0, .int 0])), (q1, .inl (k2, 8, .inr (.inr (.inr (.inr (fun _ => none)))))), (q3, .inl (k4, 10, .inr (.inr (.inr (.inr (fun _ => none))))))]) (w1 := [(q6, .inr (3, [.int 0, .int 0, .ref q7, .int 0, .int 0, .int 0, .int 0, .int 0]))]) hP hD [3] [0, 1, 2] rfl rfl (by decide) (by decide) hk1 hFc hP1 hD1
  generalize H1 = H at hP hS ⊢
  have hP : va_P (dC, dI) vwCl [(h0, .inr (1, [.ref q1, .ref q3, .int 0, .int 0, .int 0])), (q1, .inl (k2, 8, .inr (.inr (.inr (.inr (fun _ => none)))))), (q3, .inl (k4, 10, .inr (.inr (.inr (.inr (fun _ => none)))))), (q6, .inr (3, [.int 0, .int 0, .ref q7, .int 0, .int 0, .int 0, .int 0, .int 0]))] H := hP
  have hD : va_D A [(h0, .inr (1, [.ref q1, .ref q3, .int 0, .int 0, .int 0])), (q1, .inl (k2, 8, .inr (.inr (.inr (.inr (fun _ => none)))))), (q3, .inl (k4, 10, .inr (.inr (.inr (.inr (fun _ => none)))))), (q6, .inr (3, [.int 0, .int 0, .ref q7, .int 0, .int 0, .int 0, .int 0, .int 0]))] := hD
  refine W.widen (k := 4) (n := 106) (Nat.le_of_ble_eq_true rfl) (Nat.le_of_ble_eq_true rfl) ?_
  refine va_astq hx hb hK hP hD hS 1 0 3 3 rfl rfl rfl rfl (in_d (by decide +kernel)) dX1_init_57 (fun H locs hP hD hS => ?_)
  obtain ⟨f8, hP, hD⟩ : ∃ f8 : Nat → Option Nat, va_P (dC, dI) vwCl [(h0, .inr (1, [.ref q1, .ref q3, .int 0, .int 0, .int 0])), (q1, .inl (k2, 8, .inr (.inr (.inr (.inr f8))))), (q3, .inl (k4, 10, .inr (.inr (.inr (.inr (fun _ => none)))))), (q6, .inr (3, [.int 0, .int 0, .ref q7, .int 0, .int 0, .int 0, .int 0, .int 0]))] H ∧ va_D A [(h0, .inr (1, [.ref q1, .ref q3, .int 0, .int 0, .int 0])), (q1, .inl (k2, 8, .inr (.inr (.inr (.inr f8))))), (q3, .inl (k4, 10, .inr (.inr (.inr (.inr (fun _ => none)))))), (q6, .inr (3, [.int 0, .int 0, .ref q7, .int 0, .int 0, .int 0, .int 0, .int 0]))] := ⟨_, hP, hD⟩
  have hP := hP.sub (ws' := [(h0, .inr (1, [.ref q1, .ref q3, .int 0, .int 0, .int 0])), (q1, .inl (k2, 8, .inr (.inr (.inr (.inr f8))))), (q3, .inl (k4, 10, .inr (.inr (.inr (.inr (fun _ => none))))))]) [0, 1, 2] rfl
  have hD := hD.sub (ws' := [(h0, .inr (1, [.ref q1, .ref q3, .int 0, .int 0, .int 0])), (q1, .inl (k2, 8, .inr (.inr (.inr (.inr f8))))), (q3, .inl (k4, 10, .inr (.inr (.inr (.inr (fun _ => none))))))]) [0, 1, 2] (by decide) rfl
  refine lv_iinc (v := 1) (lv' := [(1, .int 1), (0, .ref h0)]) hx hb dX1_init_58 hl (k := 0) rfl (by decide +kernel) (by decide) rfl (fun ls hl => ?_)
  refine lv_goto (tgt := 39) hx hb dX1_init_61 (by decide) ?_
  refine lv_iload_n hx hb dX1_init_39 rfl (lv_at hl 0 rfl) ?_
  refine lv_bipush (v := 8) hx hb dX1_init_40 (by decide +kernel) ?_
  refine lv_icmp_ge (tgt := 64) hx hb dX1_init_42 (by decide) (fun c9 => absurd c9 (by decide +kernel)) (fun c9 => ?_)
  refine lv_aload_n hx hb dX1_init_45 rfl (lv_at hl 1 rfl) ?_
  refine va_get (D := (dC, dI)) (ci := 1) (v := .ref q1) (C := RX1) (T := TX1) (N := 5) hx hb hts inX1 hown hK hP 0 rfl rfl 0 (by decide) (hts _ pq213) (fun _ h9 => h9) rfl dX1_init_46 ?_
  refine lv_iload_n hx hb dX1_init_49 rfl (lv_at hl 0 rfl) ?_
  refine va_new (ci := 3) (fs := [.int 0, .int 0, .null, .int 0, .int 0, .int 0, .int 0, .int 0]) (C := RX3) (T := TX3) (N := 8) hx hb hts inX3 tyX3 tyX3_ok hown (hts _ pq107) (hts _ pq111) (hts _ pq76) hK hP hD hS hA rfl dfX3 (Nat.le_of_ble_eq_true rfl) (Nat.le_of_ble_eq_true rfl) dX1_init_50 (fun q10 H hP hD hS => ?_)
  have hP : va_P (dC, dI) vwCl [(h0, .inr (1, [.ref q1, .ref q3, .int 0, .int 0, .int 0])), (q1, .inl (k2, 8, .inr (.inr (.inr (.inr f8))))), (q3, .inl (k4, 10, .inr (.inr (.inr (.inr (fun _ => none)))))), (q10, .inr (3, [.int 0, .int 0, .null, .int 0, .int 0, .int 0, .int 0, .int 0]))] H := hP
  have hD : va_D A [(h0, .inr (1, [.ref q1, .ref q3, .int 0, .int 0, .int 0])), (q1, .inl (k2, 8, .inr (.inr (.inr (.inr f8))))), (q3, .inl (k4, 10, .inr (.inr (.inr (.inr (fun _ => none)))))), (q10, .inr (3, [.int 0, .int 0, .null, .int 0, .int 0, .int 0, .int 0, .int 0]))] := hD
  refine W.widen (k := 5) (n := 114) (Nat.le_of_ble_eq_true rfl) (Nat.le_of_ble_eq_true rfl) ?_
  refine lv_dup hx hb dX1_init_53 rfl ?_
  have hPc := hP.sub (ws' := [(q10, .inr (3, [.int 0, .int 0, .null, .int 0, .int 0, .int 0, .int 0, .int 0]))]) [3] rfl
  have hDc := hD.sub (ws' := [(q10, .inr (3, [.int 0, .int 0, .null, .int 0, .int 0, .int 0, .int 0, .int 0]))]) [3] (by decide) rfl
  have hKc := hK.sub (tys' := []) [] rfl
  have hFc := va_free (wc := [(q10, .inr (3, [.int 0, .int 0, .null, .int 0, .int 0, .int 0, .int 0, .int 0]))]) hD hS hA [3] rfl
  refine va_callv (va_runIN (As := []) (rest := [.ref q10, .int 1, .ref q1]) ⟨hx, hb, hml, hown, hts⟩ (c_X3_init l dC dI q10 H.size  ) ⟨va_cnB 0 hts (gI pq114) rfl rfl rfl (xN_X1_33 hN) (hts _ pq76) (by decide +kernel) ⟨(Nat.le_of_ble_eq_true rfl), (Nat.le_of_ble_eq_true rfl)⟩, rfl, hts _ pq113⟩ (pc_S hPc hDc hKc hN) rfl rfl hl.1 rfl (lv_room (Nat.le_of_ble_eq_true rfl)) dX1_init_54 ⟨(Nat.le_of_ble_eq_true rfl), (Nat.le_of_ble_eq_true rfl)⟩) hS (fun q _ h => hFc q h) hFc (fun u t H1 locs ht hvm hw hB hz1 hk1 hS => ?_)
  obtain ⟨q11, hP1, hK1, hD1⟩ := hB
  rw [ht] at hP1
  have hK1 := va_K.moved hvm.symm hK1
  obtain ⟨hP, hD⟩ := va_join (wr := [(h0, .inr (1, [.ref q1, .ref q3, .int 0, .int 0, .int 0])), (q1, .inl (k2, 8, .inr (.inr (.inr (.inr f8))))), (q3, .inl (k4, 10, .inr (.inr (.inr (.inr (fun _ => none))))))]) (w1 := [(q10, .inr (3, [.int 0, .int 0, .ref q11, .int 0, .int 0, .int 0, .int 0, .int 0]))]) hP hD [3] [0, 1, 2] rfl rfl (by decide) (by decide) hk1 hFc hP1 hD1
  generalize H1 = H at hP hS ⊢
  have hP : va_P (dC, dI) vwCl [(h0, .inr (1, [.ref q1, .ref q3, .int 0, .int 0, .int 0])), (q1, .inl (k2, 8, .inr (.inr (.inr (.inr f8))))), (q3, .inl (k4, 10, .inr (.inr (.inr (.inr (fun _ => none)))))), (q10, .inr (3, [.int 0, .int 0, .ref q11, .int 0, .int 0, .int 0, .int 0, .int 0]))] H := hP
  have hD : va_D A [(h0, .inr (1, [.ref q1, .ref q3, .int 0, .int 0, .int 0])), (q1, .inl (k2, 8, .inr (.inr (.inr (.inr f8))))), (q3, .inl (k4, 10, .inr (.inr (.inr (.inr (fun _ => none)))))), (q10, .inr (3, [.int 0, .int 0, .ref q11, .int 0, .int 0, .int 0, .int 0, .int 0]))] := hD
  refine W.widen (k := 6) (n := 194) (Nat.le_of_ble_eq_true rfl) (Nat.le_of_ble_eq_true rfl) ?_
  refine va_astq hx hb hK hP hD hS 1 0 3 3 rfl rfl rfl rfl (in_d (by decide +kernel)) dX1_init_57 (fun H locs hP hD hS => ?_)
  obtain ⟨f12, hP, hD⟩ : ∃ f12 : Nat → Option Nat, va_P (dC, dI) vwCl [(h0, .inr (1, [.ref q1, .ref q3, .int 0, .int 0, .int 0])), (q1, .inl (k2, 8, .inr (.inr (.inr (.inr f12))))), (q3, .inl (k4, 10, .inr (.inr (.inr (.inr (fun _ => none)))))), (q10, .inr (3, [.int 0, .int 0, .ref q11, .int 0, .int 0, .int 0, .int 0, .int 0]))] H ∧ va_D A [(h0, .inr (1, [.ref q1, .ref q3, .int 0, .int 0, .int 0])), (q1, .inl (k2, 8, .inr (.inr (.inr (.inr f12))))), (q3, .inl (k4, 10, .inr (.inr (.inr (.inr (fun _ => none)))))), (q10, .inr (3, [.int 0, .int 0, .ref q11, .int 0, .int 0, .int 0, .int 0, .int 0]))] := ⟨_, hP, hD⟩
  have hP := hP.sub (ws' := [(h0, .inr (1, [.ref q1, .ref q3, .int 0, .int 0, .int 0])), (q1, .inl (k2, 8, .inr (.inr (.inr (.inr f12))))), (q3, .inl (k4, 10, .inr (.inr (.inr (.inr (fun _ => none))))))]) [0, 1, 2] rfl
  have hD := hD.sub (ws' := [(h0, .inr (1, [.ref q1, .ref q3, .int 0, .int 0, .int 0])), (q1, .inl (k2, 8, .inr (.inr (.inr (.inr f12))))), (q3, .inl (k4, 10, .inr (.inr (.inr (.inr (fun _ => none))))))]) [0, 1, 2] (by decide) rfl
  refine lv_iinc (v := 2) (lv' := [(1, .int 2), (0, .ref h0)]) hx hb dX1_init_58 hl (k := 0) rfl (by decide +kernel) (by decide) rfl (fun ls hl => ?_)
  refine lv_goto (tgt := 39) hx hb dX1_init_61 (by decide) ?_
  refine lv_iload_n hx hb dX1_init_39 rfl (lv_at hl 0 rfl) ?_
  refine lv_bipush (v := 8) hx hb dX1_init_40 (by decide +kernel) ?_
  refine lv_icmp_ge (tgt := 64) hx hb dX1_init_42 (by decide) (fun c13 => absurd c13 (by decide +kernel)) (fun c13 => ?_)
  refine lv_aload_n hx hb dX1_init_45 rfl (lv_at hl 1 rfl) ?_
  refine va_get (D := (dC, dI)) (ci := 1) (v := .ref q1) (C := RX1) (T := TX1) (N := 5) hx hb hts inX1 hown hK hP 0 rfl rfl 0 (by decide) (hts _ pq213) (fun _ h9 => h9) rfl dX1_init_46 ?_
  refine lv_iload_n hx hb dX1_init_49 rfl (lv_at hl 0 rfl) ?_
  refine va_new (ci := 3) (fs := [.int 0, .int 0, .null, .int 0, .int 0, .int 0, .int 0, .int 0]) (C := RX3) (T := TX3) (N := 8) hx hb hts inX3 tyX3 tyX3_ok hown (hts _ pq107) (hts _ pq111) (hts _ pq76) hK hP hD hS hA rfl dfX3 (Nat.le_of_ble_eq_true rfl) (Nat.le_of_ble_eq_true rfl) dX1_init_50 (fun q14 H hP hD hS => ?_)
  have hP : va_P (dC, dI) vwCl [(h0, .inr (1, [.ref q1, .ref q3, .int 0, .int 0, .int 0])), (q1, .inl (k2, 8, .inr (.inr (.inr (.inr f12))))), (q3, .inl (k4, 10, .inr (.inr (.inr (.inr (fun _ => none)))))), (q14, .inr (3, [.int 0, .int 0, .null, .int 0, .int 0, .int 0, .int 0, .int 0]))] H := hP
  have hD : va_D A [(h0, .inr (1, [.ref q1, .ref q3, .int 0, .int 0, .int 0])), (q1, .inl (k2, 8, .inr (.inr (.inr (.inr f12))))), (q3, .inl (k4, 10, .inr (.inr (.inr (.inr (fun _ => none)))))), (q14, .inr (3, [.int 0, .int 0, .null, .int 0, .int 0, .int 0, .int 0, .int 0]))] := hD
  refine W.widen (k := 7) (n := 202) (Nat.le_of_ble_eq_true rfl) (Nat.le_of_ble_eq_true rfl) ?_
  refine lv_dup hx hb dX1_init_53 rfl ?_
  have hPc := hP.sub (ws' := [(q14, .inr (3, [.int 0, .int 0, .null, .int 0, .int 0, .int 0, .int 0, .int 0]))]) [3] rfl
  have hDc := hD.sub (ws' := [(q14, .inr (3, [.int 0, .int 0, .null, .int 0, .int 0, .int 0, .int 0, .int 0]))]) [3] (by decide) rfl
  have hKc := hK.sub (tys' := []) [] rfl
  have hFc := va_free (wc := [(q14, .inr (3, [.int 0, .int 0, .null, .int 0, .int 0, .int 0, .int 0, .int 0]))]) hD hS hA [3] rfl
  refine va_callv (va_runIN (As := []) (rest := [.ref q14, .int 2, .ref q1]) ⟨hx, hb, hml, hown, hts⟩ (c_X3_init l dC dI q14 H.size  ) ⟨va_cnB 0 hts (gI pq114) rfl rfl rfl (xN_X1_33 hN) (hts _ pq76) (by decide +kernel) ⟨(Nat.le_of_ble_eq_true rfl), (Nat.le_of_ble_eq_true rfl)⟩, rfl, hts _ pq113⟩ (pc_S hPc hDc hKc hN) rfl rfl hl.1 rfl (lv_room (Nat.le_of_ble_eq_true rfl)) dX1_init_54 ⟨(Nat.le_of_ble_eq_true rfl), (Nat.le_of_ble_eq_true rfl)⟩) hS (fun q _ h => hFc q h) hFc (fun u t H1 locs ht hvm hw hB hz1 hk1 hS => ?_)
  obtain ⟨q15, hP1, hK1, hD1⟩ := hB
  rw [ht] at hP1
  have hK1 := va_K.moved hvm.symm hK1
  obtain ⟨hP, hD⟩ := va_join (wr := [(h0, .inr (1, [.ref q1, .ref q3, .int 0, .int 0, .int 0])), (q1, .inl (k2, 8, .inr (.inr (.inr (.inr f12))))), (q3, .inl (k4, 10, .inr (.inr (.inr (.inr (fun _ => none))))))]) (w1 := [(q14, .inr (3, [.int 0, .int 0, .ref q15, .int 0, .int 0, .int 0, .int 0, .int 0]))]) hP hD [3] [0, 1, 2] rfl rfl (by decide) (by decide) hk1 hFc hP1 hD1
  generalize H1 = H at hP hS ⊢
  have hP : va_P (dC, dI) vwCl [(h0, .inr (1, [.ref q1, .ref q3, .int 0, .int 0, .int 0])), (q1, .inl (k2, 8, .inr (.inr (.inr (.inr f12))))), (q3, .inl (k4, 10, .inr (.inr (.inr (.inr (fun _ => none)))))), (q14, .inr (3, [.int 0, .int 0, .ref q15, .int 0, .int 0, .int 0, .int 0, .int 0]))] H := hP
  have hD : va_D A [(h0, .inr (1, [.ref q1, .ref q3, .int 0, .int 0, .int 0])), (q1, .inl (k2, 8, .inr (.inr (.inr (.inr f12))))), (q3, .inl (k4, 10, .inr (.inr (.inr (.inr (fun _ => none)))))), (q14, .inr (3, [.int 0, .int 0, .ref q15, .int 0, .int 0, .int 0, .int 0, .int 0]))] := hD
  refine W.widen (k := 8) (n := 282) (Nat.le_of_ble_eq_true rfl) (Nat.le_of_ble_eq_true rfl) ?_
  refine va_astq hx hb hK hP hD hS 1 0 3 3 rfl rfl rfl rfl (in_d (by decide +kernel)) dX1_init_57 (fun H locs hP hD hS => ?_)
  obtain ⟨f16, hP, hD⟩ : ∃ f16 : Nat → Option Nat, va_P (dC, dI) vwCl [(h0, .inr (1, [.ref q1, .ref q3, .int 0, .int 0, .int 0])), (q1, .inl (k2, 8, .inr (.inr (.inr (.inr f16))))), (q3, .inl (k4, 10, .inr (.inr (.inr (.inr (fun _ => none)))))), (q14, .inr (3, [.int 0, .int 0, .ref q15, .int 0, .int 0, .int 0, .int 0, .int 0]))] H ∧ va_D A [(h0, .inr (1, [.ref q1, .ref q3, .int 0, .int 0, .int 0])), (q1, .inl (k2, 8, .inr (.inr (.inr (.inr f16))))), (q3, .inl (k4, 10, .inr (.inr (.inr (.inr (fun _ => none)))))), (q14, .inr (3, [.int 0, .int 0, .ref q15, .int 0, .int 0, .int 0, .int 0, .int 0]))] := ⟨_, hP, hD⟩
  have hP := hP.sub (ws' := [(h0, .inr (1, [.ref q1, .ref q3, .int 0, .int 0, .int 0])), (q1, .inl (k2, 8, .inr (.inr (.inr (.inr f16))))), (q3, .inl (k4, 10, .inr (.inr (.inr (.inr (fun _ => none))))))]) [0, 1, 2] rfl
  have hD := hD.sub (ws' := [(h0, .inr (1, [.ref q1, .ref q3, .int 0, .int 0, .int 0])), (q1, .inl (k2, 8, .inr (.inr (.inr (.inr f16))))), (q3, .inl (k4, 10, .inr (.inr (.inr (.inr (fun _ => none))))))]) [0, 1, 2] (by decide) rfl
  refine lv_iinc (v := 3) (lv' := [(1, .int 3), (0, .ref h0)]) hx hb dX1_init_58 hl (k := 0) rfl (by decide +kernel) (by decide) rfl (fun ls hl => ?_)
  refine lv_goto (tgt := 39) hx hb dX1_init_61 (by decide) ?_
  refine lv_iload_n hx hb dX1_init_39 rfl (lv_at hl 0 rfl) ?_
  refine lv_bipush (v := 8) hx hb dX1_init_40 (by decide +kernel) ?_
  refine lv_icmp_ge (tgt := 64) hx hb dX1_init_42 (by decide) (fun c17 => absurd c17 (by decide +kernel)) (fun c17 => ?_)
  refine lv_aload_n hx hb dX1_init_45 rfl (lv_at hl 1 rfl) ?_
  refine va_get (D := (dC, dI)) (ci := 1) (v := .ref q1) (C := RX1) (T := TX1) (N := 5) hx hb hts inX1 hown hK hP 0 rfl rfl 0 (by decide) (hts _ pq213) (fun _ h9 => h9) rfl dX1_init_46 ?_
  refine lv_iload_n hx hb dX1_init_49 rfl (lv_at hl 0 rfl) ?_
  refine va_new (ci := 3) (fs := [.int 0, .int 0, .null, .int 0, .int 0, .int 0, .int 0, .int 0]) (C := RX3) (T := TX3) (N := 8) hx hb hts inX3 tyX3 tyX3_ok hown (hts _ pq107) (hts _ pq111) (hts _ pq76) hK hP hD hS hA rfl dfX3 (Nat.le_of_ble_eq_true rfl) (Nat.le_of_ble_eq_true rfl) dX1_init_50 (fun q18 H hP hD hS => ?_)
  have hP : va_P (dC, dI) vwCl [(h0, .inr (1, [.ref q1, .ref q3, .int 0, .int 0, .int 0])), (q1, .inl (k2, 8, .inr (.inr (.inr (.inr f16))))), (q3, .inl (k4, 10, .inr (.inr (.inr (.inr (fun _ => none)))))), (q18, .inr (3, [.int 0, .int 0, .null, .int 0, .int 0, .int 0, .int 0, .int 0]))] H := hP
  have hD : va_D A [(h0, .inr (1, [.ref q1, .ref q3, .int 0, .int 0, .int 0])), (q1, .inl (k2, 8, .inr (.inr (.inr (.inr f16))))), (q3, .inl (k4, 10, .inr (.inr (.inr (.inr (fun _ => none)))))), (q18, .inr (3, [.int 0, .int 0, .null, .int 0, .int 0, .int 0, .int 0, .int 0]))] := hD
  refine W.widen (k := 9) (n := 290) (Nat.le_of_ble_eq_true rfl) (Nat.le_of_ble_eq_true rfl) ?_
  refine lv_dup hx hb dX1_init_53 rfl ?_
  have hPc := hP.sub (ws' := [(q18, .inr (3, [.int 0, .int 0, .null, .int 0, .int 0, .int 0, .int 0, .int 0]))]) [3] rfl
  have hDc := hD.sub (ws' := [(q18, .inr (3, [.int 0, .int 0, .null, .int 0, .int 0, .int 0, .int 0, .int 0]))]) [3] (by decide) rfl
  have hKc := hK.sub (tys' := []) [] rfl
  have hFc := va_free (wc := [(q18, .inr (3, [.int 0, .int 0, .null, .int 0, .int 0, .int 0, .int 0, .int 0]))]) hD hS hA [3] rfl
  refine va_callv (va_runIN (As := []) (rest := [.ref q18, .int 3, .ref q1]) ⟨hx, hb, hml, hown, hts⟩ (c_X3_init l dC dI q18 H.size  ) ⟨va_cnB 0 hts (gI pq114) rfl rfl rfl (xN_X1_33 hN) (hts _ pq76) (by decide +kernel) ⟨(Nat.le_of_ble_eq_true rfl), (Nat.le_of_ble_eq_true rfl)⟩, rfl, hts _ pq113⟩ (pc_S hPc hDc hKc hN) rfl rfl hl.1 rfl (lv_room (Nat.le_of_ble_eq_true rfl)) dX1_init_54 ⟨(Nat.le_of_ble_eq_true rfl), (Nat.le_of_ble_eq_true rfl)⟩) hS (fun q _ h => hFc q h) hFc (fun u t H1 locs ht hvm hw hB hz1 hk1 hS => ?_)
  obtain ⟨q19, hP1, hK1, hD1⟩ := hB
  rw [ht] at hP1
  have hK1 := va_K.moved hvm.symm hK1
  obtain ⟨hP, hD⟩ := va_join (wr := [(h0, .inr (1, [.ref q1, .ref q3, .int 0, .int 0, .int 0])), (q1, .inl (k2, 8, .inr (.inr (.inr (.inr f16))))), (q3, .inl (k4, 10, .inr (.inr (.inr (.inr (fun _ => none))))))]) (w1 := [(q18, .inr (3, [.int 0, .int 0, .ref q19, .int 0, .int 0, .int 0, .int 0, .int 0]))]) hP hD [3] [0, 1, 2] rfl rfl (by decide) (by decide) hk1 hFc hP1 hD1
  generalize H1 = H at hP hS ⊢
  have hP : va_P (dC, dI) vwCl [(h0, .inr (1, [.ref q1, .ref q3, .int 0, .int 0, .int 0])), (q1, .inl (k2, 8, .inr (.inr (.inr (.inr f16))))), (q3, .inl (k4, 10, .inr (.inr (.inr (.inr (fun _ => none)))))), (q18, .inr (3, [.int 0, .int 0, .ref q19, .int 0, .int 0, .int 0, .int 0, .int 0]))] H := hP
  have hD : va_D A [(h0, .inr (1, [.ref q1, .ref q3, .int 0, .int 0, .int 0])), (q1, .inl (k2, 8, .inr (.inr (.inr (.inr f16))))), (q3, .inl (k4, 10, .inr (.inr (.inr (.inr (fun _ => none)))))), (q18, .inr (3, [.int 0, .int 0, .ref q19, .int 0, .int 0, .int 0, .int 0, .int 0]))] := hD
  refine W.widen (k := 10) (n := 370) (Nat.le_of_ble_eq_true rfl) (Nat.le_of_ble_eq_true rfl) ?_
  refine va_astq hx hb hK hP hD hS 1 0 3 3 rfl rfl rfl rfl (in_d (by decide +kernel)) dX1_init_57 (fun H locs hP hD hS => ?_)
  obtain ⟨f20, hP, hD⟩ : ∃ f20 : Nat → Option Nat, va_P (dC, dI) vwCl [(h0, .inr (1, [.ref q1, .ref q3, .int 0, .int 0, .int 0])), (q1, .inl (k2, 8, .inr (.inr (.inr (.inr f20))))), (q3, .inl (k4, 10, .inr (.inr (.inr (.inr (fun _ => none)))))), (q18, .inr (3, [.int 0, .int 0, .ref q19, .int 0, .int 0, .int 0, .int 0, .int 0]))] H ∧ va_D A [(h0, .inr (1, [.ref q1, .ref q3, .int 0, .int 0, .int 0])), (q1, .inl (k2, 8, .inr (.inr (.inr (.inr f20))))), (q3, .inl (k4, 10, .inr (.inr (.inr (.inr (fun _ => none)))))), (q18, .inr (3, [.int 0, .int 0, .ref q19, .int 0, .int 0, .int 0, .int 0, .int 0]))] := ⟨_, hP, hD⟩
  have hP := hP.sub (ws' := [(h0, .inr (1, [.ref q1, .ref q3, .int 0, .int 0, .int 0])), (q1, .inl (k2, 8, .inr (.inr (.inr (.inr f20))))), (q3, .inl (k4, 10, .inr (.inr (.inr (.inr (fun _ => none))))))]) [0, 1, 2] rfl
  have hD := hD.sub (ws' := [(h0, .inr (1, [.ref q1, .ref q3, .int 0, .int 0, .int 0])), (q1, .inl (k2, 8, .inr (.inr (.inr (.inr f20))))), (q3, .inl (k4, 10, .inr (.inr (.inr (.inr (fun _ => none))))))]) [0, 1, 2] (by decide) rfl
  refine lv_iinc (v := 4) (lv' := [(1, .int 4), (0, .ref h0)]) hx hb dX1_init_58 hl (k := 0) rfl (by decide +kernel) (by decide) rfl (fun ls hl => ?_)
  refine lv_goto (tgt := 39) hx hb dX1_init_61 (by decide) ?_
  refine lv_iload_n hx hb dX1_init_39 rfl (lv_at hl 0 rfl) ?_
  refine lv_bipush (v := 8) hx hb dX1_init_40 (by decide +kernel) ?_
  refine lv_icmp_ge (tgt := 64) hx hb dX1_init_42 (by decide) (fun c21 => absurd c21 (by decide +kernel)) (fun c21 => ?_)
  refine lv_aload_n hx hb dX1_init_45 rfl (lv_at hl 1 rfl) ?_
  refine va_get (D := (dC, dI)) (ci := 1) (v := .ref q1) (C := RX1) (T := TX1) (N := 5) hx hb hts inX1 hown hK hP 0 rfl rfl 0 (by decide) (hts _ pq213) (fun _ h9 => h9) rfl dX1_init_46 ?_
  refine lv_iload_n hx hb dX1_init_49 rfl (lv_at hl 0 rfl) ?_
  refine va_new (ci := 3) (fs := [.int 0, .int 0, .null, .int 0, .int 0, .int 0, .int 0, .int 0]) (C := RX3) (T := TX3) (N := 8) hx hb hts inX3 tyX3 tyX3_ok hown (hts _ pq107) (hts _ pq111) (hts _ pq76) hK hP hD hS hA rfl dfX3 (Nat.le_of_ble_eq_true rfl) (Nat.le_of_ble_eq_true rfl) dX1_init_50 (fun q22 H hP hD hS => ?_)
  have hP : va_P (dC, dI) vwCl [(h0, .inr (1, [.ref q1, .ref q3, .int 0, .int 0, .int 0])), (q1, .inl (k2, 8, .inr (.inr (.inr (.inr f20))))), (q3, .inl (k4, 10, .inr (.inr (.inr (.inr (fun _ => none)))))), (q22, .inr (3, [.int 0, .int 0, .null, .int 0, .int 0, .int 0, .int 0, .int 0]))] H := hP
  have hD : va_D A [(h0, .inr (1, [.ref q1, .ref q3, .int 0, .int 0, .int 0])), (q1, .inl (k2, 8, .inr (.inr (.inr (.inr f20))))), (q3, .inl (k4, 10, .inr (.inr (.inr (.inr (fun _ => none)))))), (q22, .inr (3, [.int 0, .int 0, .null, .int 0, .int 0, .int 0, .int 0, .int 0]))] := hD
  refine W.widen (k := 11) (n := 378) (Nat.le_of_ble_eq_true rfl) (Nat.le_of_ble_eq_true rfl) ?_
  refine lv_dup hx hb dX1_init_53 rfl ?_
  have hPc := hP.sub (ws' := [(q22, .inr (3, [.int 0, .int 0, .null, .int 0, .int 0, .int 0, .int 0, .int 0]))]) [3] rfl
  have hDc := hD.sub (ws' := [(q22, .inr (3, [.int 0, .int 0, .null, .int 0, .int 0, .int 0, .int 0, .int 0]))]) [3] (by decide) rfl
  have hKc := hK.sub (tys' := []) [] rfl
  have hFc := va_free (wc := [(q22, .inr (3, [.int 0, .int 0, .null, .int 0, .int 0, .int 0, .int 0, .int 0]))]) hD hS hA [3] rfl
  refine va_callv (va_runIN (As := []) (rest := [.ref q22, .int 4, .ref q1]) ⟨hx, hb, hml, hown, hts⟩ (c_X3_init l dC dI q22 H.size  ) ⟨va_cnB 0 hts (gI pq114) rfl rfl rfl (xN_X1_33 hN) (hts _ pq76) (by decide +kernel) ⟨(Nat.le_of_ble_eq_true rfl), (Nat.le_of_ble_eq_true rfl)⟩, rfl, hts _ pq113⟩ (pc_S hPc hDc hKc hN) rfl rfl hl.1 rfl (lv_room (Nat.le_of_ble_eq_true rfl)) dX1_init_54 ⟨(Nat.le_of_ble_eq_true rfl), (Nat.le_of_ble_eq_true rfl)⟩) hS (fun q _ h => hFc q h) hFc (fun u t H1 locs ht hvm hw hB hz1 hk1 hS => ?_)
  obtain ⟨q23, hP1, hK1, hD1⟩ := hB
  rw [ht] at hP1
  have hK1 := va_K.moved hvm.symm hK1
  obtain ⟨hP, hD⟩ := va_join (wr := [(h0, .inr (1, [.ref q1, .ref q3, .int 0, .int 0, .int 0])), (q1, .inl (k2, 8, .inr (.inr (.inr (.inr f20))))), (q3, .inl (k4, 10, .inr (.inr (.inr (.inr (fun _ => none))))))]) (w1 := [(q22, .inr (3, [.int 0, .int 0, .ref q23, .int 0, .int 0, .int 0, .int 0, .int 0]))]) hP hD [3] [0, 1, 2] rfl rfl (by decide) (by decide) hk1 hFc hP1 hD1
  generalize H1 = H at hP hS ⊢
  have hP : va_P (dC, dI) vwCl [(h0, .inr (1, [.ref q1, .ref q3, .int 0, .int 0, .int 0])), (q1, .inl (k2, 8, .inr (.inr (.inr (.inr f20))))), (q3, .inl (k4, 10, .inr (.inr (.inr (.inr (fun _ => none)))))), (q22, .inr (3, [.int 0, .int 0, .ref q23, .int 0, .int 0, .int 0, .int 0, .int 0]))] H := hP
  have hD : va_D A [(h0, .inr (1, [.ref q1, .ref q3, .int 0, .int 0, .int 0])), (q1, .inl (k2, 8, .inr (.inr (.inr (.inr f20))))), (q3, .inl (k4, 10, .inr (.inr (.inr (.inr (fun _ => none)))))), (q22, .inr (3, [.int 0, .int 0, .ref q23, .int 0, .int 0, .int 0, .int 0, .int 0]))] := hD
  refine W.widen (k := 12) (n := 458) (Nat.le_of_ble_eq_true rfl) (Nat.le_of_ble_eq_true rfl) ?_
  refine va_astq hx hb hK hP hD hS 1 0 3 3 rfl rfl rfl rfl (in_d (by decide +kernel)) dX1_init_57 (fun H locs hP hD hS => ?_)
  obtain ⟨f24, hP, hD⟩ : ∃ f24 : Nat → Option Nat, va_P (dC, dI) vwCl [(h0, .inr (1, [.ref q1, .ref q3, .int 0, .int 0, .int 0])), (q1, .inl (k2, 8, .inr (.inr (.inr (.inr f24))))), (q3, .inl (k4, 10, .inr (.inr (.inr (.inr (fun _ => none)))))), (q22, .inr (3, [.int 0, .int 0, .ref q23, .int 0, .int 0, .int 0, .int 0, .int 0]))] H ∧ va_D A [(h0, .inr (1, [.ref q1, .ref q3, .int 0, .int 0, .int 0])), (q1, .inl (k2, 8, .inr (.inr (.inr (.inr f24))))), (q3, .inl (k4, 10, .inr (.inr (.inr (.inr (fun _ => none)))))), (q22, .inr (3, [.int 0, .int 0, .ref q23, .int 0, .int 0, .int 0, .int 0, .int 0]))] := ⟨_, hP, hD⟩
  have hP := hP.sub (ws' := [(h0, .inr (1, [.ref q1, .ref q3, .int 0, .int 0, .int 0])), (q1, .inl (k2, 8, .inr (.inr (.inr (.inr f24))))), (q3, .inl (k4, 10, .inr (.inr (.inr (.inr (fun _ => none))))))]) [0, 1, 2] rfl
  have hD := hD.sub (ws' := [(h0, .inr (1, [.ref q1, .ref q3, .int 0, .int 0, .int 0])), (q1, .inl (k2, 8, .inr (.inr (.inr (.inr f24))))), (q3, .inl (k4, 10, .inr (.inr (.inr (.inr (fun _ => none))))))]) [0, 1, 2] (by decide) rfl
  refine lv_iinc (v := 5) (lv' := [(1, .int 5), (0, .ref h0)]) hx hb dX1_init_58 hl (k := 0) rfl (by decide +kernel) (by decide) rfl (fun ls hl => ?_)
  refine lv_goto (tgt := 39) hx hb dX1_init_61 (by decide) ?_
  refine lv_iload_n hx hb dX1_init_39 rfl (lv_at hl 0 rfl) ?_
  refine lv_bipush (v := 8) hx hb dX1_init_40 (by decide +kernel) ?_
  refine lv_icmp_ge (tgt := 64) hx hb dX1_init_42 (by decide) (fun c25 => absurd c25 (by decide +kernel)) (fun c25 => ?_)
  refine lv_aload_n hx hb dX1_init_45 rfl (lv_at hl 1 rfl) ?_
  refine va_get (D := (dC, dI)) (ci := 1) (v := .ref q1) (C := RX1) (T := TX1) (N := 5) hx hb hts inX1 hown hK hP 0 rfl rfl 0 (by decide) (hts _ pq213) (fun _ h9 => h9) rfl dX1_init_46 ?_
  refine lv_iload_n hx hb dX1_init_49 rfl (lv_at hl 0 rfl) ?_
  refine va_new (ci := 3) (fs := [.int 0, .int 0, .null, .int 0, .int 0, .int 0, .int 0, .int 0]) (C := RX3) (T := TX3) (N := 8) hx hb hts inX3 tyX3 tyX3_ok hown (hts _ pq107) (hts _ pq111) (hts _ pq76) hK hP hD hS hA rfl dfX3 (Nat.le_of_ble_eq_true rfl) (Nat.le_of_ble_eq_true rfl) dX1_init_50 (fun q26 H hP hD hS => ?_)
  have hP : va_P (dC, dI) vwCl [(h0, .inr (1, [.ref q1, .ref q3, .int 0, .int 0, .int 0])), (q1, .inl (k2, 8, .inr (.inr (.inr (.inr f24))))), (q3, .inl (k4, 10, .inr (.inr (.inr (.inr (fun _ => none)))))), (q26, .inr (3, [.int 0, .int 0, .null, .int 0, .int 0, .int 0, .int 0, .int 0]))] H := hP
  have hD : va_D A [(h0, .inr (1, [.ref q1, .ref q3, .int 0, .int 0, .int 0])), (q1, .inl (k2, 8, .inr (.inr (.inr (.inr f24))))), (q3, .inl (k4, 10, .inr (.inr (.inr (.inr (fun _ => none)))))), (q26, .inr (3, [.int 0, .int 0, .null, .int 0, .int 0, .int 0, .int 0, .int 0]))] := hD
  refine W.widen (k := 13) (n := 466) (Nat.le_of_ble_eq_true rfl) (Nat.le_of_ble_eq_true rfl) ?_
  refine lv_dup hx hb dX1_init_53 rfl ?_
  have hPc := hP.sub (ws' := [(q26, .inr (3, [.int 0, .int 0, .null, .int 0, .int 0, .int 0, .int 0, .int 0]))]) [3] rfl
  have hDc := hD.sub (ws' := [(q26, .inr (3, [.int 0, .int 0, .null, .int 0, .int 0, .int 0, .int 0, .int 0]))]) [3] (by decide) rfl
  have hKc := hK.sub (tys' := []) [] rfl
  have hFc := va_free (wc := [(q26, .inr (3, [.int 0, .int 0, .null, .int 0, .int 0, .int 0, .int 0, .int 0]))]) hD hS hA [3] rfl
  refine va_callv (va_runIN (As := []) (rest := [.ref q26, .int 5, .ref q1]) ⟨hx, hb, hml, hown, hts⟩ (c_X3_init l dC dI q26 H.size  ) ⟨va_cnB 0 hts (gI pq114) rfl rfl rfl (xN_X1_33 hN) (hts _ pq76) (by decide +kernel) ⟨(Nat.le_of_ble_eq_true rfl), (Nat.le_of_ble_eq_true rfl)⟩, rfl, hts _ pq113⟩ (pc_S hPc hDc hKc hN) rfl rfl hl.1 rfl (lv_room (Nat.le_of_ble_eq_true rfl)) dX1_init_54 ⟨(Nat.le_of_ble_eq_true rfl), (Nat.le_of_ble_eq_true rfl)⟩) hS (fun q _ h => hFc q h) hFc (fun u t H1 locs ht hvm hw hB hz1 hk1 hS => ?_)
  obtain ⟨q27, hP1, hK1, hD1⟩ := hB
  rw [ht] at hP1
  have hK1 := va_K.moved hvm.symm hK1
  obtain ⟨hP, hD⟩ := va_join (wr := [(h0, .inr (1, [.ref q1, .ref q3, .int 0, .int 0, .int 0])), (q1, .inl (k2, 8, .inr (.inr (.inr (.inr f24))))), (q3, .inl (k4, 10, .inr (.inr (.inr (.inr (fun _ => none))))))]) (w1 := [(q26, .inr (3, [.int 0, .int 0, .ref q27, .int 0, .int 0, .int 0, .int 0, .int 0]))]) hP hD [3] [0, 1, 2] rfl rfl (by decide) (by decide) hk1 hFc hP1 hD1
  generalize H1 = H at hP hS ⊢
  have hP : va_P (dC, dI) vwCl [(h0, .inr (1, [.ref q1, .ref q3, .int 0, .int 0, .int 0])), (q1, .inl (k2, 8, .inr (.inr (.inr (.inr f24))))), (q3, .inl (k4, 10, .inr (.inr (.inr (.inr (fun _ => none)))))), (q26, .inr (3, [.int 0, .int 0, .ref q27, .int 0, .int 0, .int 0, .int 0, .int 0]))] H := hP
  have hD : va_D A [(h0, .inr (1, [.ref q1, .ref q3, .int 0, .int 0, .int 0])), (q1, .inl (k2, 8, .inr (.inr (.inr (.inr f24))))), (q3, .inl (k4, 10, .inr (.inr (.inr (.inr (fun _ => none)))))), (q26, .inr (3, [.int 0, .int 0, .ref q27, .int 0, .int 0, .int 0, .int 0, .int 0]))] := hD
  refine W.widen (k := 14) (n := 546) (Nat.le_of_ble_eq_true rfl) (Nat.le_of_ble_eq_true rfl) ?_
  refine va_astq hx hb hK hP hD hS 1 0 3 3 rfl rfl rfl rfl (in_d (by decide +kernel)) dX1_init_57 (fun H locs hP hD hS => ?_)
  obtain ⟨f28, hP, hD⟩ : ∃ f28 : Nat → Option Nat, va_P (dC, dI) vwCl [(h0, .inr (1, [.ref q1, .ref q3, .int 0, .int 0, .int 0])), (q1, .inl (k2, 8, .inr (.inr (.inr (.inr f28))))), (q3, .inl (k4, 10, .inr (.inr (.inr (.inr (fun _ => none)))))), (q26, .inr (3, [.int 0, .int 0, .ref q27, .int 0, .int 0, .int 0, .int 0, .int 0]))] H ∧ va_D A [(h0, .inr (1, [.ref q1, .ref q3, .int 0, .int 0, .int 0])), (q1, .inl (k2, 8, .inr (.inr (.inr (.inr f28))))), (q3, .inl (k4, 10, .inr (.inr (.inr (.inr (fun _ => none)))))), (q26, .inr (3, [.int 0, .int 0, .ref q27, .int 0, .int 0, .int 0, .int 0, .int 0]))] := ⟨_, hP, hD⟩
  have hP := hP.sub (ws' := [(h0, .inr (1, [.ref q1, .ref q3, .int 0, .int 0, .int 0])), (q1, .inl (k2, 8, .inr (.inr (.inr (.inr f28))))), (q3, .inl (k4, 10, .inr (.inr (.inr (.inr (fun _ => none))))))]) [0, 1, 2] rfl
  have hD := hD.sub (ws' := [(h0, .inr (1, [.ref q1, .ref q3, .int 0, .int 0, .int 0])), (q1, .inl (k2, 8, .inr (.inr (.inr (.inr f28))))), (q3, .inl (k4, 10, .inr (.inr (.inr (.inr (fun _ => none))))))]) [0, 1, 2] (by decide) rfl
  refine lv_iinc (v := 6) (lv' := [(1, .int 6), (0, .ref h0)]) hx hb dX1_init_58 hl (k := 0) rfl (by decide +kernel) (by decide) rfl (fun ls hl => ?_)
  refine lv_goto (tgt := 39) hx hb dX1_init_61 (by decide) ?_
  refine lv_iload_n hx hb dX1_init_39 rfl (lv_at hl 0 rfl) ?_
  refine lv_bipush (v := 8) hx hb dX1_init_40 (by decide +kernel) ?_
  refine lv_icmp_ge (tgt := 64) hx hb dX1_init_42 (by decide) (fun c29 => absurd c29 (by decide +kernel)) (fun c29 => ?_)
  refine lv_aload_n hx hb dX1_init_45 rfl (lv_at hl 1 rfl) ?_
  refine va_get (D := (dC, dI)) (ci := 1) (v := .ref q1) (C := RX1) (T := TX1) (N := 5) hx hb hts inX1 hown hK hP 0 rfl rfl 0 (by decide) (hts _ pq213) (fun _ h9 => h9) rfl dX1_init_46 ?_
  refine lv_iload_n hx hb dX1_init_49 rfl (lv_at hl 0 rfl) ?_
  refine va_new (ci := 3) (fs := [.int 0, .int 0, .null, .int 0, .int 0, .int 0, .int 0, .int 0]) (C := RX3) (T := TX3) (N := 8) hx hb hts inX3 tyX3 tyX3_ok hown (hts _ pq107) (hts _ pq111) (hts _ pq76) hK hP hD hS hA rfl dfX3 (Nat.le_of_ble_eq_true rfl) (Nat.le_of_ble_eq_true rfl) dX1_init_50 (fun q30 H hP hD hS => ?_)
  have hP : va_P (dC, dI) vwCl [(h0, .inr (1, [.ref q1, .ref q3, .int 0, .int 0, .int 0])), (q1, .inl (k2, 8, .inr (.inr (.inr (.inr f28))))), (q3, .inl (k4, 10, .inr (.inr (.inr (.inr (fun _ => none)))))), (q30, .inr (3, [.int 0, .int 0, .null, .int 0, .int 0, .int 0, .int 0, .int 0]))] H := hP
  have hD : va_D A [(h0, .inr (1, [.ref q1, .ref q3, .int 0, .int 0, .int 0])), (q1, .inl (k2, 8, .inr (.inr (.inr (.inr f28))))), (q3, .inl (k4, 10, .inr (.inr (.inr (.inr (fun _ => none)))))), (q30, .inr (3, [.int 0, .int 0, .null, .int 0, .int 0, .int 0, .int 0, .int 0]))] := hD
  refine W.widen (k := 15) (n := 554) (Nat.le_of_ble_eq_true rfl) (Nat.le_of_ble_eq_true rfl) ?_
  refine lv_dup hx hb dX1_init_53 rfl ?_
  have hPc := hP.sub (ws' := [(q30, .inr (3, [.int 0, .int 0, .null, .int 0, .int 0, .int 0, .int 0, .int 0]))]) [3] rfl
  have hDc := hD.sub (ws' := [(q30, .inr (3, [.int 0, .int 0, .null, .int 0, .int 0, .int 0, .int 0, .int 0]))]) [3] (by decide) rfl
  have hKc := hK.sub (tys' := []) [] rfl
  have hFc := va_free (wc := [(q30, .inr (3, [.int 0, .int 0, .null, .int 0, .int 0, .int 0, .int 0, .int 0]))]) hD hS hA [3] rfl
  refine va_callv (va_runIN (As := []) (rest := [.ref q30, .int 6, .ref q1]) ⟨hx, hb, hml, hown, hts⟩ (c_X3_init l dC dI q30 H.size  ) ⟨va_cnB 0 hts (gI pq114) rfl rfl rfl (xN_X1_33 hN) (hts _ pq76) (by decide +kernel) ⟨(Nat.le_of_ble_eq_true rfl), (Nat.le_of_ble_eq_true rfl)⟩, rfl, hts _ pq113⟩ (pc_S hPc hDc hKc hN) rfl rfl hl.1 rfl (lv_room (Nat.le_of_ble_eq_true rfl)) dX1_init_54 ⟨(Nat.le_of_ble_eq_true rfl), (Nat.le_of_ble_eq_true rfl)⟩) hS (fun q _ h => hFc q h) hFc (fun u t H1 locs ht hvm hw hB hz1 hk1 hS => ?_)
  obtain ⟨q31, hP1, hK1, hD1⟩ := hB
  rw [ht] at hP1
  have hK1 := va_K.moved hvm.symm hK1
  obtain ⟨hP, hD⟩ := va_join (wr := [(h0, .inr (1, [.ref q1, .ref q3, .int 0, .int 0, .int 0])), (q1, .inl (k2, 8, .inr (.inr (.inr (.inr f28))))), (q3, .inl (k4, 10, .inr (.inr (.inr (.inr (fun _ => none))))))]) (w1 := [(q30, .inr (3, [.int 0, .int 0, .ref q31, .int 0, .int 0, .int 0, .int 0, .int 0]))]) hP hD [3] [0, 1, 2] rfl rfl (by decide) (by decide) hk1 hFc hP1 hD1
  generalize H1 = H at hP hS ⊢
  have hP : va_P (dC, dI) vwCl [(h0, .inr (1, [.ref q1, .ref q3, .int 0, .int 0, .int 0])), (q1, .inl (k2, 8, .inr (.inr (.inr (.inr f28))))), (q3, .inl (k4, 10, .inr (.inr (.inr (.inr (fun _ => none)))))), (q30, .inr (3, [.int 0, .int 0, .ref q31, .int 0, .int 0, .int 0, .int 0, .int 0]))] H := hP
  have hD : va_D A [(h0, .inr (1, [.ref q1, .ref q3, .int 0, .int 0, .int 0])), (q1, .inl (k2, 8, .inr (.inr (.inr (.inr f28))))), (q3, .inl (k4, 10, .inr (.inr (.inr (.inr (fun _ => none)))))), (q30, .inr (3, [.int 0, .int 0, .ref q31, .int 0, .int 0, .int 0, .int 0, .int 0]))] := hD
  refine W.widen (k := 16) (n := 634) (Nat.le_of_ble_eq_true rfl) (Nat.le_of_ble_eq_true rfl) ?_
  refine va_astq hx hb hK hP hD hS 1 0 3 3 rfl rfl rfl rfl (in_d (by decide +kernel)) dX1_init_57 (fun H locs hP hD hS => ?_)
  obtain ⟨f32, hP, hD⟩ : ∃ f32 : Nat → Option Nat, va_P (dC, dI) vwCl [(h0, .inr (1, [.ref q1, .ref q3, .int 0, .int 0, .int 0])), (q1, .inl (k2, 8, .inr (.inr (.inr (.inr f32))))), (q3, .inl (k4, 10, .inr (.inr (.inr (.inr (fun _ => none)))))), (q30, .inr (3, [.int 0, .int 0, .ref q31, .int 0, .int 0, .int 0, .int 0, .int 0]))] H ∧ va_D A [(h0, .inr (1, [.ref q1, .ref q3, .int 0, .int 0, .int 0])), (q1, .inl (k2, 8, .inr (.inr (.inr (.inr f32))))), (q3, .inl (k4, 10, .inr (.inr (.inr (.inr (fun _ => none)))))), (q30, .inr (3, [.int 0, .int 0, .ref q31, .int 0, .int 0, .int 0, .int 0, .int 0]))] := ⟨_, hP, hD⟩
  have hP := hP.sub (ws' := [(h0, .inr (1, [.ref q1, .ref q3, .int 0, .int 0, .int 0])), (q1, .inl (k2, 8, .inr (.inr (.inr (.inr f32))))), (q3, .inl (k4, 10, .inr (.inr (.inr (.inr (fun _ => none))))))]) [0, 1, 2] rfl
  have hD := hD.sub (ws' := [(h0, .inr (1, [.ref q1, .ref q3, .int 0, .int 0, .int 0])), (q1, .inl (k2, 8, .inr (.inr (.inr (.inr f32))))), (q3, .inl (k4, 10, .inr (.inr (.inr (.inr (fun _ => none))))))]) [0, 1, 2] (by decide) rfl
  refine lv_iinc (v := 7) (lv' := [(1, .int 7), (0, .ref h0)]) hx hb dX1_init_58 hl (k := 0) rfl (by decide +kernel) (by decide) rfl (fun ls hl => ?_)
  refine lv_goto (tgt := 39) hx hb dX1_init_61 (by decide) ?_
  refine lv_iload_n hx hb dX1_init_39 rfl (lv_at hl 0 rfl) ?_
  refine lv_bipush (v := 8) hx hb dX1_init_40 (by decide +kernel) ?_
  refine lv_icmp_ge (tgt := 64) hx hb dX1_init_42 (by decide) (fun c33 => absurd c33 (by decide +kernel)) (fun c33 => ?_)
  refine lv_aload_n hx hb dX1_init_45 rfl (lv_at hl 1 rfl) ?_
  refine va_get (D := (dC, dI)) (ci := 1) (v := .ref q1) (C := RX1) (T := TX1) (N := 5) hx hb hts inX1 hown hK hP 0 rfl rfl 0 (by decide) (hts _ pq213) (fun _ h9 => h9) rfl dX1_init_46 ?_
  refine lv_iload_n hx hb dX1_init_49 rfl (lv_at hl 0 rfl) ?_
  refine va_new (ci := 3) (fs := [.int 0, .int 0, .null, .int 0, .int 0, .int 0, .int 0, .int 0]) (C := RX3) (T := TX3) (N := 8) hx hb hts inX3 tyX3 tyX3_ok hown (hts _ pq107) (hts _ pq111) (hts _ pq76) hK hP hD hS hA rfl dfX3 (Nat.le_of_ble_eq_true rfl) (Nat.le_of_ble_eq_true rfl) dX1_init_50 (fun q34 H hP hD hS => ?_)
  have hP : va_P (dC, dI) vwCl [(h0, .inr (1, [.ref q1, .ref q3, .int 0, .int 0, .int 0])), (q1, .inl (k2, 8, .inr (.inr (.inr (.inr f32))))), (q3, .inl (k4, 10, .inr (.inr (.inr (.inr (fun _ => none)))))), (q34, .inr (3, [.int 0, .int 0, .null, .int 0, .int 0, .int 0, .int 0, .int 0]))] H := hP
  have hD : va_D A [(h0, .inr (1, [.ref q1, .ref q3, .int 0, .int 0, .int 0])), (q1, .inl (k2, 8, .inr (.inr (.inr (.inr f32))))), (q3, .inl (k4, 10, .inr (.inr (.inr (.inr (fun _ => none)))))), (q34, .inr (3, [.int 0, .int 0, .null, .int 0, .int 0, .int 0, .int 0, .int 0]))] := hD
  refine W.widen (k := 17) (n := 642) (Nat.le_of_ble_eq_true rfl) (Nat.le_of_ble_eq_true rfl) ?_
  refine lv_dup hx hb dX1_init_53 rfl ?_
  have hPc := hP.sub (ws' := [(q34, .inr (3, [.int 0, .int 0, .null, .int 0, .int 0, .int 0, .int 0, .int 0]))]) [3] rfl
  have hDc := hD.sub (ws' := [(q34, .inr (3, [.int 0, .int 0, .null, .int 0, .int 0, .int 0, .int 0, .int 0]))]) [3] (by decide) rfl
  have hKc := hK.sub (tys' := []) [] rfl
  have hFc := va_free (wc := [(q34, .inr (3, [.int 0, .int 0, .null, .int 0, .int 0, .int 0, .int 0, .int 0]))]) hD hS hA [3] rfl
  refine va_callv (va_runIN (As := []) (rest := [.ref q34, .int 7, .ref q1]) ⟨hx, hb, hml, hown, hts⟩ (c_X3_init l dC dI q34 H.size  ) ⟨va_cnB 0 hts (gI pq114) rfl rfl rfl (xN_X1_33 hN) (hts _ pq76) (by decide +kernel) ⟨(Nat.le_of_ble_eq_true rfl), (Nat.le_of_ble_eq_true rfl)⟩, rfl, hts _ pq113⟩ (pc_S hPc hDc hKc hN) rfl rfl hl.1 rfl (lv_room (Nat.le_of_ble_eq_true rfl)) dX1_init_54 ⟨(Nat.le_of_ble_eq_true rfl), (Nat.le_of_ble_eq_true rfl)⟩) hS (fun q _ h => hFc q h) hFc (fun u t H1 locs ht hvm hw hB hz1 hk1 hS => ?_)
  obtain ⟨q35, hP1, hK1, hD1⟩ := hB
  rw [ht] at hP1
  have hK1 := va_K.moved hvm.symm hK1
  obtain ⟨hP, hD⟩ := va_join (wr := [(h0, .inr (1, [.ref q1, .ref q3, .int 0, .int 0, .int 0])), (q1, .inl (k2, 8, .inr (.inr (.inr (.inr f32))))), (q3, .inl (k4, 10, .inr (.inr (.inr (.inr (fun _ => none))))))]) (w1 := [(q34, .inr (3, [.int 0, .int 0, .ref q35, .int 0, .int 0, .int 0, .int 0, .int 0]))]) hP hD [3] [0, 1, 2] rfl rfl (by decide) (by decide) hk1 hFc hP1 hD1
  generalize H1 = H at hP hS ⊢
  have hP : va_P (dC, dI) vwCl [(h0, .inr (1, [.ref q1, .ref q3, .int 0, .int 0, .int 0])), (q1, .inl (k2, 8, .inr (.inr (.inr (.inr f32))))), (q3, .inl (k4, 10, .inr (.inr (.inr (.inr (fun _ => none)))))), (q34, .inr (3, [.int 0, .int 0, .ref q35, .int 0, .int 0, .int 0, .int 0, .int 0]))] H := hP
  have hD : va_D A [(h0, .inr (1, [.ref q1, .ref q3, .int 0, .int 0, .int 0])), (q1, .inl (k2, 8, .inr (.inr (.inr (.inr f32))))), (q3, .inl (k4, 10, .inr (.inr (.inr (.inr (fun _ => none)))))), (q34, .inr (3, [.int 0, .int 0, .ref q35, .int 0, .int 0, .int 0, .int 0, .int 0]))] := hD
  refine W.widen (k := 18) (n := 722) (Nat.le_of_ble_eq_true rfl) (Nat.le_of_ble_eq_true rfl) ?_
  refine va_astq hx hb hK hP hD hS 1 0 3 3 rfl rfl rfl rfl (in_d (by decide +kernel)) dX1_init_57 (fun H locs hP hD hS => ?_)
  obtain ⟨f36, hP, hD⟩ : ∃ f36 : Nat → Option Nat, va_P (dC, dI) vwCl [(h0, .inr (1, [.ref q1, .ref q3, .int 0, .int 0, .int 0])), (q1, .inl (k2, 8, .inr (.inr (.inr (.inr f36))))), (q3, .inl (k4, 10, .inr (.inr (.inr (.inr (fun _ => none)))))), (q34, .inr (3, [.int 0, .int 0, .ref q35, .int 0, .int 0, .int 0, .int 0, .int 0]))] H ∧ va_D A [(h0, .inr (1, [.ref q1, .ref q3, .int 0, .int 0, .int 0])), (q1, .inl (k2, 8, .inr (.inr (.inr (.inr f36))))), (q3, .inl (k4, 10, .inr (.inr (.inr (.inr (fun _ => none)))))), (q34, .inr (3, [.int 0, .int 0, .ref q35, .int 0, .int 0, .int 0, .int 0, .int 0]))] := ⟨_, hP, hD⟩
  have hP := hP.sub (ws' := [(h0, .inr (1, [.ref q1, .ref q3, .int 0, .int 0, .int 0])), (q1, .inl (k2, 8, .inr (.inr (.inr (.inr f36))))), (q3, .inl (k4, 10, .inr (.inr (.inr (.inr (fun _ => none))))))]) [0, 1, 2] rfl
  have hD := hD.sub (ws' := [(h0, .inr (1, [.ref q1, .ref q3, .int 0, .int 0, .int 0])), (q1, .inl (k2, 8, .inr (.inr (.inr (.inr f36))))), (q3, .inl (k4, 10, .inr (.inr (.inr (.inr (fun _ => none))))))]) [0, 1, 2] (by decide) rfl
  refine lv_iinc (v := 8) (lv' := [(1, .int 8), (0, .ref h0)]) hx hb dX1_init_58 hl (k := 0) rfl (by decide +kernel) (by decide) rfl (fun ls hl => ?_)
  refine lv_goto (tgt := 39) hx hb dX1_init_61 (by decide) ?_
  refine lv_iload_n hx hb dX1_init_39 rfl (lv_at hl 0 rfl) ?_
  refine lv_bipush (v := 8) hx hb dX1_init_40 (by decide +kernel) ?_
  refine lv_icmp_ge (tgt := 64) hx hb dX1_init_42 (by decide) (fun c37 => ?_) (fun c37 => absurd (by decide +kernel) c37)
  refine lv_iconst (v := 0) hx hb dX1_init_64 (by decide +kernel) ?_
  refine lv_istore_n (lv' := [(1, .int 0), (0, .ref h0)]) hx hb dX1_init_65 rfl hl (by decide) rfl (fun ls hl => ?_)
  refine lv_iload_n hx hb dX1_init_66 rfl (lv_at hl 0 rfl) ?_
  refine lv_bipush (v := 10) hx hb dX1_init_67 (by decide +kernel) ?_
  refine lv_icmp_ge (tgt := 91) hx hb dX1_init_69 (by decide) (fun c38 => absurd c38 (by decide +kernel)) (fun c38 => ?_)
  refine lv_aload_n hx hb dX1_init_72 rfl (lv_at hl 1 rfl) ?_
  refine va_get (D := (dC, dI)) (ci := 1) (v := .ref q3) (C := RX1) (T := TX1) (N := 5) hx hb hts inX1 hown hK hP 0 rfl rfl 1 (by decide) (hts _ pq217) (fun _ h9 => h9) rfl dX1_init_73 ?_
  refine lv_iload_n hx hb dX1_init_76 rfl (lv_at hl 0 rfl) ?_
  refine va_new (ci := 0) (fs := [.int 0, .int 0, .int 0, .int 0, .int 0, .int 0, .int 0, .int 0]) (C := RX0) (T := TX0) (N := 8) hx hb hts inX0 tyX0 tyX0_ok hown (hts _ pq109) (hts _ pq164) (hts _ pq77) hK hP hD hS hA rfl dfX0 (Nat.le_of_ble_eq_true rfl) (Nat.le_of_ble_eq_true rfl) dX1_init_77 (fun q39 H hP hD hS => ?_)
  have hP : va_P (dC, dI) vwCl [(h0, .inr (1, [.ref q1, .ref q3, .int 0, .int 0, .int 0])), (q1, .inl (k2, 8, .inr (.inr (.inr (.inr f36))))), (q3, .inl (k4, 10, .inr (.inr (.inr (.inr (fun _ => none)))))), (q39, .inr (0, [.int 0, .int 0, .int 0, .int 0, .int 0, .int 0, .int 0, .int 0]))] H := hP
  have hD : va_D A [(h0, .inr (1, [.ref q1, .ref q3, .int 0, .int 0, .int 0])), (q1, .inl (k2, 8, .inr (.inr (.inr (.inr f36))))), (q3, .inl (k4, 10, .inr (.inr (.inr (.inr (fun _ => none)))))), (q39, .inr (0, [.int 0, .int 0, .int 0, .int 0, .int 0, .int 0, .int 0, .int 0]))] := hD
  refine W.widen (k := 19) (n := 730) (Nat.le_of_ble_eq_true rfl) (Nat.le_of_ble_eq_true rfl) ?_
  refine lv_dup hx hb dX1_init_80 rfl ?_
  have hPc := hP.sub (ws' := [(q39, .inr (0, [.int 0, .int 0, .int 0, .int 0, .int 0, .int 0, .int 0, .int 0]))]) [3] rfl
  have hDc := hD.sub (ws' := [(q39, .inr (0, [.int 0, .int 0, .int 0, .int 0, .int 0, .int 0, .int 0, .int 0]))]) [3] (by decide) rfl
  have hKc := hK.sub (tys' := []) [] rfl
  refine ro_v (va_runIN (As := []) (rest := [.ref q39, .int 0, .ref q3]) ⟨hx, hb, hml, hown, hts⟩ (c_X0_init l dC dI q39 H.size  ) ⟨va_cnB 0 hts (gI pq167) rfl rfl rfl (xN_X1_34 hN) (hts _ pq77) (by decide +kernel) ⟨(Nat.le_of_ble_eq_true rfl), (Nat.le_of_ble_eq_true rfl)⟩, rfl, hts _ pq166⟩ (pc_S hPc hDc hKc hN) rfl rfl hl.1 rfl (lv_room (Nat.le_of_ble_eq_true rfl)) dX1_init_81 ⟨(Nat.le_of_ble_eq_true rfl), (Nat.le_of_ble_eq_true rfl)⟩) hS hP (fun H locs hP hS => ?_)
  refine va_astq hx hb hK hP hD hS 2 1 3 0 rfl rfl rfl rfl (in_d (by decide +kernel)) dX1_init_84 (fun H locs hP hD hS => ?_)
  obtain ⟨f40, hP, hD⟩ : ∃ f40 : Nat → Option Nat, va_P (dC, dI) vwCl [(h0, .inr (1, [.ref q1, .ref q3, .int 0, .int 0, .int 0])), (q1, .inl (k2, 8, .inr (.inr (.inr (.inr f36))))), (q3, .inl (k4, 10, .inr (.inr (.inr (.inr f40))))), (q39, .inr (0, [.int 0, .int 0, .int 0, .int 0, .int 0, .int 0, .int 0, .int 0]))] H ∧ va_D A [(h0, .inr (1, [.ref q1, .ref q3, .int 0, .int 0, .int 0])), (q1, .inl (k2, 8, .inr (.inr (.inr (.inr f36))))), (q3, .inl (k4, 10, .inr (.inr (.inr (.inr f40))))), (q39, .inr (0, [.int 0, .int 0, .int 0, .int 0, .int 0, .int 0, .int 0, .int 0]))] := ⟨_, hP, hD⟩
  have hP := hP.sub (ws' := [(h0, .inr (1, [.ref q1, .ref q3, .int 0, .int 0, .int 0])), (q1, .inl (k2, 8, .inr (.inr (.inr (.inr f36))))), (q3, .inl (k4, 10, .inr (.inr (.inr (.inr f40)))))]) [0, 1, 2] rfl
  have hD := hD.sub (ws' := [(h0, .inr (1, [.ref q1, .ref q3, .int 0, .int 0, .int 0])), (q1, .inl (k2, 8, .inr (.inr (.inr (.inr f36))))), (q3, .inl (k4, 10, .inr (.inr (.inr (.inr f40)))))]) [0, 1, 2] (by decide) rfl
  refine lv_iinc (v := 1) (lv' := [(1, .int 1), (0, .ref h0)]) hx hb dX1_init_85 hl (k := 0) rfl (by decide +kernel) (by decide) rfl (fun ls hl => ?_)
  refine lv_goto (tgt := 66) hx hb dX1_init_88 (by decide) ?_
  refine lv_iload_n hx hb dX1_init_66 rfl (lv_at hl 0 rfl) ?_
  refine lv_bipush (v := 10) hx hb dX1_init_67 (by decide +kernel) ?_
  refine lv_icmp_ge (tgt := 91) hx hb dX1_init_69 (by decide) (fun c41 => absurd c41 (by decide +kernel)) (fun c41 => ?_)
  refine lv_aload_n hx hb dX1_init_72 rfl (lv_at hl 1 rfl) ?_
  refine va_get (D := (dC, dI)) (ci := 1) (v := .ref q3) (C := RX1) (T := TX1) (N := 5) hx hb hts inX1 hown hK hP 0 rfl rfl 1 (by decide) (hts _ pq217) (fun _ h9 => h9) rfl dX1_init_73 ?_
  refine lv_iload_n hx hb dX1_init_76 rfl (lv_at hl 0 rfl) ?_
  refine va_new (ci := 0) (fs := [.int 0, .int 0, .int 0, .int 0, .int 0, .int 0, .int 0, .int 0]) (C := RX0) (T := TX0) (N := 8) hx hb hts inX0 tyX0 tyX0_ok hown (hts _ pq109) (hts _ pq164) (hts _ pq77) hK hP hD hS hA rfl dfX0 (Nat.le_of_ble_eq_true rfl) (Nat.le_of_ble_eq_true rfl) dX1_init_77 (fun q42 H hP hD hS => ?_)
  have hP : va_P (dC, dI) vwCl [(h0, .inr (1, [.ref q1, .ref q3, .int 0, .int 0, .int 0])), (q1, .inl (k2, 8, .inr (.inr (.inr (.inr f36))))), (q3, .inl (k4, 10, .inr (.inr (.inr (.inr f40))))), (q42, .inr (0, [.int 0, .int 0, .int 0, .int 0, .int 0, .int 0, .int 0, .int 0]))] H := hP
  have hD : va_D A [(h0, .inr (1, [.ref q1, .ref q3, .int 0, .int 0, .int 0])), (q1, .inl (k2, 8, .inr (.inr (.inr (.inr f36))))), (q3, .inl (k4, 10, .inr (.inr (.inr (.inr f40))))), (q42, .inr (0, [.int 0, .int 0, .int 0, .int 0, .int 0, .int 0, .int 0, .int 0]))] := hD
  refine W.widen (k := 20) (n := 738) (Nat.le_of_ble_eq_true rfl) (Nat.le_of_ble_eq_true rfl) ?_
  refine lv_dup hx hb dX1_init_80 rfl ?_
  have hPc := hP.sub (ws' := [(q42, .inr (0, [.int 0, .int 0, .int 0, .int 0, .int 0, .int 0, .int 0, .int 0]))]) [3] rfl
  have hDc := hD.sub (ws' := [(q42, .inr (0, [.int 0, .int 0, .int 0, .int 0, .int 0, .int 0, .int 0, .int 0]))]) [3] (by decide) rfl
  have hKc := hK.sub (tys' := []) [] rfl
  refine ro_v (va_runIN (As := []) (rest := [.ref q42, .int 1, .ref q3]) ⟨hx, hb, hml, hown, hts⟩ (c_X0_init l dC dI q42 H.size  ) ⟨va_cnB 0 hts (gI pq167) rfl rfl rfl (xN_X1_34 hN) (hts _ pq77) (by decide +kernel) ⟨(Nat.le_of_ble_eq_true rfl), (Nat.le_of_ble_eq_true rfl)⟩, rfl, hts _ pq166⟩ (pc_S hPc hDc hKc hN) rfl rfl hl.1 rfl (lv_room (Nat.le_of_ble_eq_true rfl)) dX1_init_81 ⟨(Nat.le_of_ble_eq_true rfl), (Nat.le_of_ble_eq_true rfl)⟩) hS hP (fun H locs hP hS => ?_)
  refine va_astq hx hb hK hP hD hS 2 1 3 0 rfl rfl rfl rfl (in_d (by decide +kernel)) dX1_init_84 (fun H locs hP hD hS => ?_)
  obtain ⟨f43, hP, hD⟩ : ∃ f43 : Nat → Option Nat, va_P (dC, dI) vwCl [(h0, .inr (1, [.ref q1, .ref q3, .int 0, .int 0, .int 0])), (q1, .inl (k2, 8, .inr (.inr (.inr (.inr f36))))), (q3, .inl (k4, 10, .inr (.inr (.inr (.inr f43))))), (q42, .inr (0, [.int 0, .int 0, .int 0, .int 0, .int 0, .int 0, .int 0, .int 0]))] H ∧ va_D A [(h0, .inr (1, [.ref q1, .ref q3, .int 0, .int 0, .int 0])), (q1, .inl (k2, 8, .inr (.inr (.inr (.inr f36))))), (q3, .inl (k4, 10, .inr (.inr (.inr (.inr f43))))), (q42, .inr (0, [.int 0, .int 0, .int 0, .int 0, .int 0, .int 0, .int 0, .int 0]))] := ⟨_, hP, hD⟩
  have hP := hP.sub (ws' := [(h0, .inr (1, [.ref q1, .ref q3, .int 0, .int 0, .int 0])), (q1, .inl (k2, 8, .inr (.inr (.inr (.inr f36))))), (q3, .inl (k4, 10, .inr (.inr (.inr (.inr f43)))))]) [0, 1, 2] rfl
  have hD := hD.sub (ws' := [(h0, .inr (1, [.ref q1, .ref q3, .int 0, .int 0, .int 0])), (q1, .inl (k2, 8, .inr (.inr (.inr (.inr f36))))), (q3, .inl (k4, 10, .inr (.inr (.inr (.inr f43)))))]) [0, 1, 2] (by decide) rfl
  refine lv_iinc (v := 2) (lv' := [(1, .int 2), (0, .ref h0)]) hx hb dX1_init_85 hl (k := 0) rfl (by decide +kernel) (by decide) rfl (fun ls hl => ?_)
  refine lv_goto (tgt := 66) hx hb dX1_init_88 (by decide) ?_
  refine lv_iload_n hx hb dX1_init_66 rfl (lv_at hl 0 rfl) ?_
  refine lv_bipush (v := 10) hx hb dX1_init_67 (by decide +kernel) ?_
  refine lv_icmp_ge (tgt := 91) hx hb dX1_init_69 (by decide) (fun c44 => absurd c44 (by decide +kernel)) (fun c44 => ?_)
  refine lv_aload_n hx hb dX1_init_72 rfl (lv_at hl 1 rfl) ?_
  refine va_get (D := (dC, dI)) (ci := 1) (v := .ref q3) (C := RX1) (T := TX1) (N := 5) hx hb hts inX1 hown hK hP 0 rfl rfl 1 (by decide) (hts _ pq217) (fun _ h9 => h9) rfl dX1_init_73 ?_
  refine lv_iload_n hx hb dX1_init_76 rfl (lv_at hl 0 rfl) ?_
  refine va_new (ci := 0) (fs := [.int 0, .int 0, .int 0, .int 0, .int 0, .int 0, .int 0, .int 0]) (C := RX0) (T := TX0) (N := 8) hx hb hts inX0 tyX0 tyX0_ok hown (hts _ pq109) (hts _ pq164) (hts _ pq77) hK hP hD hS hA rfl dfX0 (Nat.le_of_ble_eq_true rfl) (Nat.le_of_ble_eq_true rfl) dX1_init_77 (fun q45 H hP hD hS => ?_)
  have hP : va_P (dC, dI) vwCl [(h0, .inr (1, [.ref q1, .ref q3, .int 0, .int 0, .int 0])), (q1, .inl (k2, 8, .inr (.inr (.inr (.inr f36))))), (q3, .inl (k4, 10, .inr (.inr (.inr (.inr f43))))), (q45, .inr (0, [.int 0, .int 0, .int 0, .int 0, .int 0, .int 0, .int 0, .int 0]))] H := hP
  have hD : va_D A [(h0, .inr (1, [.ref q1, .ref q3, .int 0, .int 0, .int 0])), (q1, .inl (k2, 8, .inr (.inr (.inr (.inr f36))))), (q3, .inl (k4, 10, .inr (.inr (.inr (.inr f43))))), (q45, .inr (0, [.int 0, .int 0, .int 0, .int 0, .int 0, .int 0, .int 0, .int 0]))] := hD
  refine W.widen (k := 21) (n := 746) (Nat.le_of_ble_eq_true rfl) (Nat.le_of_ble_eq_true rfl) ?_
  refine lv_dup hx hb dX1_init_80 rfl ?_
  have hPc := hP.sub (ws' := [(q45, .inr (0, [.int 0, .int 0, .int 0, .int 0, .int 0, .int 0, .int 0, .int 0]))]) [3] rfl
  have hDc := hD.sub (ws' := [(q45, .inr (0, [.int 0, .int 0, .int 0, .int 0, .int 0, .int 0, .int 0, .int 0]))]) [3] (by decide) rfl
  have hKc := hK.sub (tys' := []) [] rfl
  refine ro_v (va_runIN (As := []) (rest := [.ref q45, .int 2, .ref q3]) ⟨hx, hb, hml, hown, hts⟩ (c_X0_init l dC dI q45 H.size  ) ⟨va_cnB 0 hts (gI pq167) rfl rfl rfl (xN_X1_34 hN) (hts _ pq77) (by decide +kernel) ⟨(Nat.le_of_ble_eq_true rfl), (Nat.le_of_ble_eq_true rfl)⟩, rfl, hts _ pq166⟩ (pc_S hPc hDc hKc hN) rfl rfl hl.1 rfl (lv_room (Nat.le_of_ble_eq_true rfl)) dX1_init_81 ⟨(Nat.le_of_ble_eq_true rfl), (Nat.le_of_ble_eq_true rfl)⟩) hS hP (fun H locs hP hS => ?_)
  refine va_astq hx hb hK hP hD hS 2 1 3 0 rfl rfl rfl rfl (in_d (by decide +kernel)) dX1_init_84 (fun H locs hP hD hS => ?_)
  obtain ⟨f46, hP, hD⟩ : ∃ f46 : Nat → Option Nat, va_P (dC, dI) vwCl [(h0, .inr (1, [.ref q1, .ref q3, .int 0, .int 0, .int 0])), (q1, .inl (k2, 8, .inr (.inr (.inr (.inr f36))))), (q3, .inl (k4, 10, .inr (.inr (.inr (.inr f46))))), (q45, .inr (0, [.int 0, .int 0, .int 0, .int 0, .int 0, .int 0, .int 0, .int 0]))] H ∧ va_D A [(h0, .inr (1, [.ref q1, .ref q3, .int 0, .int 0, .int 0])), (q1, .inl (k2, 8, .inr (.inr (.inr (.inr f36))))), (q3, .inl (k4, 10, .inr (.inr (.inr (.inr f46))))), (q45, .inr (0, [.int 0, .int 0, .int 0, .int 0, .int 0, .int 0, .int 0, .int 0]))] := ⟨_, hP, hD⟩
  have hP := hP.sub (ws' := [(h0, .inr (1, [.ref q1, .ref q3, .int 0, .int 0, .int 0])), (q1, .inl (k2, 8, .inr (.inr (.inr (.inr f36))))), (q3, .inl (k4, 10, .inr (.inr (.inr (.inr f46)))))]) [0, 1, 2] rfl
  have hD := hD.sub (ws' := [(h0, .inr (1, [.ref q1, .ref q3, .int 0, .int 0, .int 0])), (q1, .inl (k2, 8, .inr (.inr (.inr (.inr f36))))), (q3, .inl (k4, 10, .inr (.inr (.inr (.inr f46)))))]) [0, 1, 2] (by decide) rfl
  refine lv_iinc (v := 3) (lv' := [(1, .int 3), (0, .ref h0)]) hx hb dX1_init_85 hl (k := 0) rfl (by decide +kernel) (by decide) rfl (fun ls hl => ?_)
  refine lv_goto (tgt := 66) hx hb dX1_init_88 (by decide) ?_
  refine lv_iload_n hx hb dX1_init_66 rfl (lv_at hl 0 rfl) ?_
  refine lv_bipush (v := 10) hx hb dX1_init_67 (by decide +kernel) ?_
  refine lv_icmp_ge (tgt := 91) hx hb dX1_init_69 (by decide) (fun c47 => absurd c47 (by decide +kernel)) (fun c47 => ?_)
  refine lv_aload_n hx hb dX1_init_72 rfl (lv_at hl 1 rfl) ?_
  refine va_get (D := (dC, dI)) (ci := 1) (v := .ref q3) (C := RX1) (T := TX1) (N := 5) hx hb hts inX1 hown hK hP 0 rfl rfl 1 (by decide) (hts _ pq217) (fun _ h9 => h9) rfl dX1_init_73 ?_
  refine lv_iload_n hx hb dX1_init_76 rfl (lv_at hl 0 rfl) ?_
  refine va_new (ci := 0) (fs := [.int 0, .int 0, .int 0, .int 0, .int 0, .int 0, .int 0, .int 0]) (C := RX0) (T := TX0) (N := 8) hx hb hts inX0 tyX0 tyX0_ok hown (hts _ pq109) (hts _ pq164) (hts _ pq77) hK hP hD hS hA rfl dfX0 (Nat.le_of_ble_eq_true rfl) (Nat.le_of_ble_eq_true rfl) dX1_init_77 (fun q48 H hP hD hS => ?_)
  have hP : va_P (dC, dI) vwCl [(h0, .inr (1, [.ref q1, .ref q3, .int 0, .int 0, .int 0])), (q1, .inl (k2, 8, .inr (.inr (.inr (.inr f36))))), (q3, .inl (k4, 10, .inr (.inr (.inr (.inr f46))))), (q48, .inr (0, [.int 0, .int 0, .int 0, .int 0, .int 0, .int 0, .int 0, .int 0]))] H := hP
  have hD : va_D A [(h0, .inr (1, [.ref q1, .ref q3, .int 0, .int 0, .int 0])), (q1, .inl (k2, 8, .inr (.inr (.inr (.inr f36))))), (q3, .inl (k4, 10, .inr (.inr (.inr (.inr f46))))), (q48, .inr (0, [.int 0, .int 0, .int 0, .int 0, .int 0, .int 0, .int 0, .int 0]))] := hD
  refine W.widen (k := 22) (n := 754) (Nat.le_of_ble_eq_true rfl) (Nat.le_of_ble_eq_true rfl) ?_
  refine lv_dup hx hb dX1_init_80 rfl ?_
  have hPc := hP.sub (ws' := [(q48, .inr (0, [.int 0, .int 0, .int 0, .int 0, .int 0, .int 0, .int 0, .int 0]))]) [3] rfl
  have hDc := hD.sub (ws' := [(q48, .inr (0, [.int 0, .int 0, .int 0, .int 0, .int 0, .int 0, .int 0, .int 0]))]) [3] (by decide) rfl
  have hKc := hK.sub (tys' := []) [] rfl
  refine ro_v (va_runIN (As := []) (rest := [.ref q48, .int 3, .ref q3]) ⟨hx, hb, hml, hown, hts⟩ (c_X0_init l dC dI q48 H.size  ) ⟨va_cnB 0 hts (gI pq167) rfl rfl rfl (xN_X1_34 hN) (hts _ pq77) (by decide +kernel) ⟨(Nat.le_of_ble_eq_true rfl), (Nat.le_of_ble_eq_true rfl)⟩, rfl, hts _ pq166⟩ (pc_S hPc hDc hKc hN) rfl rfl hl.1 rfl (lv_room (Nat.le_of_ble_eq_true rfl)) dX1_init_81 ⟨(Nat.le_of_ble_eq_true rfl), (Nat.le_of_ble_eq_true rfl)⟩) hS hP (fun H locs hP hS => ?_)
  refine va_astq hx hb hK hP hD hS 2 1 3 0 rfl rfl rfl rfl (in_d (by decide +kernel)) dX1_init_84 (fun H locs hP hD hS => ?_)
  obtain ⟨f49, hP, hD⟩ : ∃ f49 : Nat → Option Nat, va_P (dC, dI) vwCl [(h0, .inr (1, [.ref q1, .ref q3, .int 0, .int 0, .int 0])), (q1, .inl (k2, 8, .inr (.inr (.inr (.inr f36))))), (q3, .inl (k4, 10, .inr (.inr (.inr (.inr f49))))), (q48, .inr (0, [.int 0, .int 0, .int 0, .int 0, .int 0, .int 0, .int 0, .int 0]))] H ∧ va_D A [(h0, .inr (1, [.ref q1, .ref q3, .int 0, .int 0, .int 0])), (q1, .inl (k2, 8, .inr (.inr (.inr (.inr f36))))), (q3, .inl (k4, 10, .inr (.inr (.inr (.inr f49))))), (q48, .inr (0, [.int 0, .int 0, .int 0, .int 0, .int 0, .int 0, .int 0, .int 0]))] := ⟨_, hP, hD⟩
  have hP := hP.sub (ws' := [(h0, .inr (1, [.ref q1, .ref q3, .int 0, .int 0, .int 0])), (q1, .inl (k2, 8, .inr (.inr (.inr (.inr f36))))), (q3, .inl (k4, 10, .inr (.inr (.inr (.inr f49)))))]) [0, 1, 2] rfl
  have hD := hD.sub (ws' := [(h0, .inr (1, [.ref q1, .ref q3, .int 0, .int 0, .int 0])), (q1, .inl (k2, 8, .inr (.inr (.inr (.inr f36))))), (q3, .inl (k4, 10, .inr (.inr (.inr (.inr f49)))))]) [0, 1, 2] (by decide) rfl
  refine lv_iinc (v := 4) (lv' := [(1, .int 4), (0, .ref h0)]) hx hb dX1_init_85 hl (k := 0) rfl (by decide +kernel) (by decide) rfl (fun ls hl => ?_)
  refine lv_goto (tgt := 66) hx hb dX1_init_88 (by decide) ?_
  refine lv_iload_n hx hb dX1_init_66 rfl (lv_at hl 0 rfl) ?_
  refine lv_bipush (v := 10) hx hb dX1_init_67 (by decide +kernel) ?_
  refine lv_icmp_ge (tgt := 91) hx hb dX1_init_69 (by decide) (fun c50 => absurd c50 (by decide +kernel)) (fun c50 => ?_)
  refine lv_aload_n hx hb dX1_init_72 rfl (lv_at hl 1 rfl) ?_
  refine va_get (D := (dC, dI)) (ci := 1) (v := .ref q3) (C := RX1) (T := TX1) (N := 5) hx hb hts inX1 hown hK hP 0 rfl rfl 1 (by decide) (hts _ pq217) (fun _ h9 => h9) rfl dX1_init_73 ?_
  refine lv_iload_n hx hb dX1_init_76 rfl (lv_at hl 0 rfl) ?_
  refine va_new (ci := 0) (fs := [.int 0, .int 0, .int 0, .int 0, .int 0, .int 0, .int 0, .int 0]) (C := RX0) (T := TX0) (N := 8) hx hb hts inX0 tyX0 tyX0_ok hown (hts _ pq109) (hts _ pq164) (hts _ pq77) hK hP hD hS hA rfl dfX0 (Nat.le_of_ble_eq_true rfl) (Nat.le_of_ble_eq_true rfl) dX1_init_77 (fun q51 H hP hD hS => ?_)
  have hP : va_P (dC, dI) vwCl [(h0, .inr (1, [.ref q1, .ref q3, .int 0, .int 0, .int 0])), (q1, .inl (k2, 8, .inr (.inr (.inr (.inr f36))))), (q3, .inl (k4, 10, .inr (.inr (.inr (.inr f49))))), (q51, .inr (0, [.int 0, .int 0, .int 0, .int 0, .int 0, .int 0, .int 0, .int 0]))] H := hP
  have hD : va_D A [(h0, .inr (1, [.ref q1, .ref q3, .int 0, .int 0, .int 0])), (q1, .inl (k2, 8, .inr (.inr (.inr (.inr f36))))), (q3, .inl (k4, 10, .inr (.inr (.inr (.inr f49))))), (q51, .inr (0, [.int 0, .int 0, .int 0, .int 0, .int 0, .int 0, .int 0, .int 0]))] := hD
  refine W.widen (k := 23) (n := 762) (Nat.le_of_ble_eq_true rfl) (Nat.le_of_ble_eq_true rfl) ?_
  refine lv_dup hx hb dX1_init_80 rfl ?_
  have hPc := hP.sub (ws' := [(q51, .inr (0, [.int 0, .int 0, .int 0, .int 0, .int 0, .int 0, .int 0, .int 0]))]) [3] rfl
  have hDc := hD.sub (ws' := [(q51, .inr (0, [.int 0, .int 0, .int 0, .int 0, .int 0, .int 0, .int 0, .int 0]))]) [3] (by decide) rfl
  have hKc := hK.sub (tys' := []) [] rfl
  refine ro_v (va_runIN (As := []) (rest := [.ref q51, .int 4, .ref q3]) ⟨hx, hb, hml, hown, hts⟩ (c_X0_init l dC dI q51 H.size  ) ⟨va_cnB 0 hts (gI pq167) rfl rfl rfl (xN_X1_34 hN) (hts _ pq77) (by decide +kernel) ⟨(Nat.le_of_ble_eq_true rfl), (Nat.le_of_ble_eq_true rfl)⟩, rfl, hts _ pq166⟩ (pc_S hPc hDc hKc hN) rfl rfl hl.1 rfl (lv_room (Nat.le_of_ble_eq_true rfl)) dX1_init_81 ⟨(Nat.le_of_ble_eq_true rfl), (Nat.le_of_ble_eq_true rfl)⟩) hS hP (fun H locs hP hS => ?_)
  refine va_astq hx hb hK hP hD hS 2 1 3 0 rfl rfl rfl rfl (in_d (by decide +kernel)) dX1_init_84 (fun H locs hP hD hS => ?_)
  obtain ⟨f52, hP, hD⟩ : ∃ f52 : Nat → Option Nat, va_P (dC, dI) vwCl [(h0, .inr (1, [.ref q1, .ref q3, .int 0, .int 0, .int 0])), (q1, .inl (k2, 8, .inr (.inr (.inr (.inr f36))))), (q3, .inl (k4, 10, .inr (.inr (.inr (.inr f52))))), (q51, .inr (0, [.int 0, .int 0, .int 0, .int 0, .int 0, .int 0, .int 0, .int 0]))] H ∧ va_D A [(h0, .inr (1, [.ref q1, .ref q3, .int 0, .int 0, .int 0])), (q1, .inl (k2, 8, .inr (.inr (.inr (.inr f36))))), (q3, .inl (k4, 10, .inr (.inr (.inr (.inr f52))))), (q51, .inr (0, [.int 0, .int 0, .int 0, .int 0, .int 0, .int 0, .int 0, .int 0]))] := ⟨_, hP, hD⟩
  have hP := hP.sub (ws' := [(h0, .inr (1, [.ref q1, .ref q3, .int 0, .int 0, .int 0])), (q1, .inl (k2, 8, .inr (.inr (.inr (.inr f36))))), (q3, .inl (k4, 10, .inr (.inr (.inr (.inr f52)))))]) [0, 1, 2] rfl
  have hD := hD.sub (ws' := [(h0, .inr (1, [.ref q1, .ref q3, .int 0, .int 0, .int 0])), (q1, .inl (k2, 8, .inr (.inr (.inr (.inr f36))))), (q3, .inl (k4, 10, .inr (.inr (.inr (.inr f52)))))]) [0, 1, 2] (by decide) rfl
  refine lv_iinc (v := 5) (lv' := [(1, .int 5), (0, .ref h0)]) hx hb dX1_init_85 hl (k := 0) rfl (by decide +kernel) (by decide) rfl (fun ls hl => ?_)
  refine lv_goto (tgt := 66) hx hb dX1_init_88 (by decide) ?_
  refine lv_iload_n hx hb dX1_init_66 rfl (lv_at hl 0 rfl) ?_
  refine lv_bipush (v := 10) hx hb dX1_init_67 (by decide +kernel) ?_
  refine lv_icmp_ge (tgt := 91) hx hb dX1_init_69 (by decide) (fun c53 => absurd c53 (by decide +kernel)) (fun c53 => ?_)
  refine lv_aload_n hx hb dX1_init_72 rfl (lv_at hl 1 rfl) ?_
  refine va_get (D := (dC, dI)) (ci := 1) (v := .ref q3) (C := RX1) (T := TX1) (N := 5) hx hb hts inX1 hown hK hP 0 rfl rfl 1 (by decide) (hts _ pq217) (fun _ h9 => h9) rfl dX1_init_73 ?_
  refine lv_iload_n hx hb dX1_init_76 rfl (lv_at hl 0 rfl) ?_
  refine va_new (ci := 0) (fs := [.int 0, .int 0, .int 0, .int 0, .int 0, .int 0, .int 0, .int 0]) (C := RX0) (T := TX0) (N := 8) hx hb hts inX0 tyX0 tyX0_ok hown (hts _ pq109) (hts _ pq164) (hts _ pq77) hK hP hD hS hA rfl dfX0 (Nat.le_of_ble_eq_true rfl) (Nat.le_of_ble_eq_true rfl) dX1_init_77 (fun q54 H hP hD hS => ?_)
  have hP : va_P (dC, dI) vwCl [(h0, .inr (1, [.ref q1, .ref q3, .int 0, .int 0, .int 0])), (q1, .inl (k2, 8, .inr (.inr (.inr (.inr f36))))), (q3, .inl (k4, 10, .inr (.inr (.inr (.inr f52))))), (q54, .inr (0, [.int 0, .int 0, .int 0, .int 0, .int 0, .int 0, .int 0, .int 0]))] H := hP
  have hD : va_D A [(h0, .inr (1, [.ref q1, .ref q3, .int 0, .int 0, .int 0])), (q1, .inl (k2, 8, .inr (.inr (.inr (.inr f36))))), (q3, .inl (k4, 10, .inr (.inr (.inr (.inr f52))))), (q54, .inr (0, [.int 0, .int 0, .int 0, .int 0, .int 0, .int 0, .int 0, .int 0]))] := hD
  refine W.widen (k := 24) (n := 770) (Nat.le_of_ble_eq_true rfl) (Nat.le_of_ble_eq_true rfl) ?_
  refine lv_dup hx hb dX1_init_80 rfl ?_
  have hPc := hP.sub (ws' := [(q54, .inr (0, [.int 0, .int 0, .int 0, .int 0, .int 0, .int 0, .int 0, .int 0]))]) [3] rfl
  have hDc := hD.sub (ws' := [(q54, .inr (0, [.int 0, .int 0, .int 0, .int 0, .int 0, .int 0, .int 0, .int 0]))]) [3] (by decide) rfl
  have hKc := hK.sub (tys' := []) [] rfl
  refine ro_v (va_runIN (As := []) (rest := [.ref q54, .int 5, .ref q3]) ⟨hx, hb, hml, hown, hts⟩ (c_X0_init l dC dI q54 H.size  ) ⟨va_cnB 0 hts (gI pq167) rfl rfl rfl (xN_X1_34 hN) (hts _ pq77) (by decide +kernel) ⟨(Nat.le_of_ble_eq_true rfl), (Nat.le_of_ble_eq_true rfl)⟩, rfl, hts _ pq166⟩ (pc_S hPc hDc hKc hN) rfl rfl hl.1 rfl (lv_room (Nat.le_of_ble_eq_true rfl)) dX1_init_81 ⟨(Nat.le_of_ble_eq_true rfl), (Nat.le_of_ble_eq_true rfl)⟩) hS hP (fun H locs hP hS => ?_)
  refine va_astq hx hb hK hP hD hS 2 1 3 0 rfl rfl rfl rfl (in_d (by decide +kernel)) dX1_init_84 (fun H locs hP hD hS => ?_)
  obtain ⟨f55, hP, hD⟩ : ∃ f55 : Nat → Option Nat, va_P (dC, dI) vwCl [(h0, .inr (1, [.ref q1, .ref q3, .int 0, .int 0, .int 0])), (q1, .inl (k2, 8, .inr (.inr (.inr (.inr f36))))), (q3, .inl (k4, 10, .inr (.inr (.inr (.inr f55))))), (q54, .inr (0, [.int 0, .int 0, .int 0, .int 0, .int 0, .int 0, .int 0, .int 0]))] H ∧ va_D A [(h0, .inr (1, [.ref q1, .ref q3, .int 0, .int 0, .int 0])), (q1, .inl (k2, 8, .inr (.inr (.inr (.inr f36))))), (q3, .inl (k4, 10, .inr (.inr (.inr (.inr f55))))), (q54, .inr (0, [.int 0, .int 0, .int 0, .int 0, .int 0, .int 0, .int 0, .int 0]))] := ⟨_, hP, hD⟩
  have hP := hP.sub (ws' := [(h0, .inr (1, [.ref q1, .ref q3, .int 0, .int 0, .int 0])), (q1, .inl (k2, 8, .inr (.inr (.inr (.inr f36))))), (q3, .inl (k4, 10, .inr (.inr (.inr (.inr f55)))))]) [0, 1, 2] rfl
  have hD := hD.sub (ws' := [(h0, .inr (1, [.ref q1, .ref q3, .int 0, .int 0, .int 0])), (q1, .inl (k2, 8, .inr (.inr (.inr (.inr f36))))), (q3, .inl (k4, 10, .inr (.inr (.inr (.inr f55)))))]) [0, 1, 2] (by decide) rfl
  refine lv_iinc (v := 6) (lv' := [(1, .int 6), (0, .ref h0)]) hx hb dX1_init_85 hl (k := 0) rfl (by decide +kernel) (by decide) rfl (fun ls hl => ?_)
  refine lv_goto (tgt := 66) hx hb dX1_init_88 (by decide) ?_
  refine lv_iload_n hx hb dX1_init_66 rfl (lv_at hl 0 rfl) ?_
  refine lv_bipush (v := 10) hx hb dX1_init_67 (by decide +kernel) ?_
  refine lv_icmp_ge (tgt := 91) hx hb dX1_init_69 (by decide) (fun c56 => absurd c56 (by decide +kernel)) (fun c56 => ?_)
  refine lv_aload_n hx hb dX1_init_72 rfl (lv_at hl 1 rfl) ?_
  refine va_get (D := (dC, dI)) (ci := 1) (v := .ref q3) (C := RX1) (T := TX1) (N := 5) hx hb hts inX1 hown hK hP 0 rfl rfl 1 (by decide) (hts _ pq217) (fun _ h9 => h9) rfl dX1_init_73 ?_
  refine lv_iload_n hx hb dX1_init_76 rfl (lv_at hl 0 rfl) ?_
  refine va_new (ci := 0) (fs := [.int 0, .int 0, .int 0, .int 0, .int 0, .int 0, .int 0, .int 0]) (C := RX0) (T := TX0) (N := 8) hx hb hts inX0 tyX0 tyX0_ok hown (hts _ pq109) (hts _ pq164) (hts _ pq77) hK hP hD hS hA rfl dfX0 (Nat.le_of_ble_eq_true rfl) (Nat.le_of_ble_eq_true rfl) dX1_init_77 (fun q57 H hP hD hS => ?_)
  have hP : va_P (dC, dI) vwCl [(h0, .inr (1, [.ref q1, .ref q3, .int 0, .int 0, .int 0])), (q1, .inl (k2, 8, .inr (.inr (.inr (.inr f36))))), (q3, .inl (k4, 10, .inr (.inr (.inr (.inr f55))))), (q57, .inr (0, [.int 0, .int 0, .int 0, .int 0, .int 0, .int 0, .int 0, .int 0]))] H := hP
  have hD : va_D A [(h0, .inr (1, [.ref q1, .ref q3, .int 0, .int 0, .int 0])), (q1, .inl (k2, 8, .inr (.inr (.inr (.inr f36))))), (q3, .inl (k4, 10, .inr (.inr (.inr (.inr f55))))), (q57, .inr (0, [.int 0, .int 0, .int 0, .int 0, .int 0, .int 0, .int 0, .int 0]))] := hD
  refine W.widen (k := 25) (n := 778) (Nat.le_of_ble_eq_true rfl) (Nat.le_of_ble_eq_true rfl) ?_
  refine lv_dup hx hb dX1_init_80 rfl ?_
  have hPc := hP.sub (ws' := [(q57, .inr (0, [.int 0, .int 0, .int 0, .int 0, .int 0, .int 0, .int 0, .int 0]))]) [3] rfl
  have hDc := hD.sub (ws' := [(q57, .inr (0, [.int 0, .int 0, .int 0, .int 0, .int 0, .int 0, .int 0, .int 0]))]) [3] (by decide) rfl
  have hKc := hK.sub (tys' := []) [] rfl
  refine ro_v (va_runIN (As := []) (rest := [.ref q57, .int 6, .ref q3]) ⟨hx, hb, hml, hown, hts⟩ (c_X0_init l dC dI q57 H.size  ) ⟨va_cnB 0 hts (gI pq167) rfl rfl rfl (xN_X1_34 hN) (hts _ pq77) (by decide +kernel) ⟨(Nat.le_of_ble_eq_true rfl), (Nat.le_of_ble_eq_true rfl)⟩, rfl, hts _ pq166⟩ (pc_S hPc hDc hKc hN) rfl rfl hl.1 rfl (lv_room (Nat.le_of_ble_eq_true rfl)) dX1_init_81 ⟨(Nat.le_of_ble_eq_true rfl), (Nat.le_of_ble_eq_true rfl)⟩) hS hP (fun H locs hP hS => ?_)
  refine va_astq hx hb hK hP hD hS 2 1 3 0 rfl rfl rfl rfl (in_d (by decide +kernel)) dX1_init_84 (fun H locs hP hD hS => ?_)
  obtain ⟨f58, hP, hD⟩ : ∃ f58 : Nat → Option Nat, va_P (dC, dI) vwCl [(h0, .inr (1, [.ref q1, .ref q3, .int 0, .int 0, .int 0])), (q1, .inl (k2, 8, .inr (.inr (.inr (.inr f36))))), (q3, .inl (k4, 10, .inr (.inr (.inr (.inr f58))))), (q57, .inr (0, [.int 0, .int 0, .int 0, .int 0, .int 0, .int 0, .int 0, .int 0]))] H ∧ va_D A [(h0, .inr (1, [.ref q1, .ref q3, .int 0, .int 0, .int 0])), (q1, .inl (k2, 8, .inr (.inr (.inr (.inr f36))))), (q3, .inl (k4, 10, .inr (.inr (.inr (.inr f58))))), (q57, .inr (0, [.int 0, .int 0, .int 0, .int 0, .int 0, .int 0, .int 0, .int 0]))] := ⟨_, hP, hD⟩
  have hP := hP.sub (ws' := [(h0, .inr (1, [.ref q1, .ref q3, .int 0, .int 0, .int 0])), (q1, .inl (k2, 8, .inr (.inr (.inr (.inr f36))))), (q3, .inl (k4, 10, .inr (.inr (.inr (.inr f58)))))]) [0, 1, 2] rfl
  have hD := hD.sub (ws' := [(h0, .inr (1, [.ref q1, .ref q3, .int 0, .int 0, .int 0])), (q1, .inl (k2, 8, .inr (.inr (.inr (.inr f36))))), (q3, .inl (k4, 10, .inr (.inr (.inr (.inr f58)))))]) [0, 1, 2] (by decide) rfl
  refine lv_iinc (v := 7) (lv' := [(1, .int 7), (0, .ref h0)]) hx hb dX1_init_85 hl (k := 0) rfl (by decide +kernel) (by decide) rfl (fun ls hl => ?_)
  refine lv_goto (tgt := 66) hx hb dX1_init_88 (by decide) ?_
  refine lv_iload_n hx hb dX1_init_66 rfl (lv_at hl 0 rfl) ?_
  refine lv_bipush (v := 10) hx hb dX1_init_67 (by decide +kernel) ?_
  refine lv_icmp_ge (tgt := 91) hx hb dX1_init_69 (by decide) (fun c59 => absurd c59 (by decide +kernel)) (fun c59 => ?_)
  refine lv_aload_n hx hb dX1_init_72 rfl (lv_at hl 1 rfl) ?_
  refine va_get (D := (dC, dI)) (ci := 1) (v := .ref q3) (C := RX1) (T := TX1) (N := 5) hx hb hts inX1 hown hK hP 0 rfl rfl 1 (by decide) (hts _ pq217) (fun _ h9 => h9) rfl dX1_init_73 ?_
  refine lv_iload_n hx hb dX1_init_76 rfl (lv_at hl 0 rfl) ?_
  refine va_new (ci := 0) (fs := [.int 0, .int 0, .int 0, .int 0, .int 0, .int 0, .int 0, .int 0]) (C := RX0) (T := TX0) (N := 8) hx hb hts inX0 tyX0 tyX0_ok hown (hts _ pq109) (hts _ pq164) (hts _ pq77) hK hP hD hS hA rfl dfX0 (Nat.le_of_ble_eq_true rfl) (Nat.le_of_ble_eq_true rfl) dX1_init_77 (fun q60 H hP hD hS => ?_)
  have hP : va_P (dC, dI) vwCl [(h0, .inr (1, [.ref q1, .ref q3, .int 0, .int 0, .int 0])), (q1, .inl (k2, 8, .inr (.inr (.inr (.inr f36))))), (q3, .inl (k4, 10, .inr (.inr (.inr (.inr f58))))), (q60, .inr (0, [.int 0, .int 0, .int 0, .int 0, .int 0, .int 0, .int 0, .int 0]))] H := hP
  have hD : va_D A [(h0, .inr (1, [.ref q1, .ref q3, .int 0, .int 0, .int 0])), (q1, .inl (k2, 8, .inr (.inr (.inr (.inr f36))))), (q3, .inl (k4, 10, .inr (.inr (.inr (.inr f58))))), (q60, .inr (0, [.int 0, .int 0, .int 0, .int 0, .int 0, .int 0, .int 0, .int 0]))] := hD
  refine W.widen (k := 26) (n := 786) (Nat.le_of_ble_eq_true rfl) (Nat.le_of_ble_eq_true rfl) ?_
  refine lv_dup hx hb dX1_init_80 rfl ?_
  have hPc := hP.sub (ws' := [(q60, .inr (0, [.int 0, .int 0, .int 0, .int 0, .int 0, .int 0, .int 0, .int 0]))]) [3] rfl
  have hDc := hD.sub (ws' := [(q60, .inr (0, [.int 0, .int 0, .int 0, .int 0, .int 0, .int 0, .int 0, .int 0]))]) [3] (by decide) rfl
  have hKc := hK.sub (tys' := []) [] rfl
  refine ro_v (va_runIN (As := []) (rest := [.ref q60, .int 7, .ref q3]) ⟨hx, hb, hml, hown, hts⟩ (c_X0_init l dC dI q60 H.size  ) ⟨va_cnB 0 hts (gI pq167) rfl rfl rfl (xN_X1_34 hN) (hts _ pq77) (by decide +kernel) ⟨(Nat.le_of_ble_eq_true rfl), (Nat.le_of_ble_eq_true rfl)⟩, rfl, hts _ pq166⟩ (pc_S hPc hDc hKc hN) rfl rfl hl.1 rfl (lv_room (Nat.le_of_ble_eq_true rfl)) dX1_init_81 ⟨(Nat.le_of_ble_eq_true rfl), (Nat.le_of_ble_eq_true rfl)⟩) hS hP (fun H locs hP hS => ?_)
  refine va_astq hx hb hK hP hD hS 2 1 3 0 rfl rfl rfl rfl (in_d (by decide +kernel)) dX1_init_84 (fun H locs hP hD hS => ?_)
  obtain ⟨f61, hP, hD⟩ : ∃ f61 : Nat → Option Nat, va_P (dC, dI) vwCl [(h0, .inr (1, [.ref q1, .ref q3, .int 0, .int 0, .int 0])), (q1, .inl (k2, 8, .inr (.inr (.inr (.inr f36))))), (q3, .inl (k4, 10, .inr (.inr (.inr (.inr f61))))), (q60, .inr (0, [.int 0, .int 0, .int 0, .int 0, .int 0, .int 0, .int 0, .int 0]))] H ∧ va_D A [(h0, .inr (1, [.ref q1, .ref q3, .int 0, .int 0, .int 0])), (q1, .inl (k2, 8, .inr (.inr (.inr (.inr f36))))), (q3, .inl (k4, 10, .inr (.inr (.inr (.inr f61))))), (q60, .inr (0, [.int 0, .int 0, .int 0, .int 0, .int 0, .int 0, .int 0, .int 0]))] := ⟨_, hP, hD⟩
  have hP := hP.sub (ws' := [(h0, .inr (1, [.ref q1, .ref q3, .int 0, .int 0, .int 0])), (q1, .inl (k2, 8, .inr (.inr (.inr (.inr f36))))), (q3, .inl (k4, 10, .inr (.inr (.inr (.inr f61)))))]) [0, 1, 2] rfl
  have hD := hD.sub (ws' := [(h0, .inr (1, [.ref q1, .ref q3, .int 0, .int 0, .int 0])), (q1, .inl (k2, 8, .inr (.inr (.inr (.inr f36))))), (q3, .inl (k4, 10, .inr (.inr (.inr (.inr f61)))))]) [0, 1, 2] (by decide) rfl
  refine lv_iinc (v := 8) (lv' := [(1, .int 8), (0, .ref h0)]) hx hb dX1_init_85 hl (k := 0) rfl (by decide +kernel) (by decide) rfl (fun ls hl => ?_)
  refine lv_goto (tgt := 66) hx hb dX1_init_88 (by decide) ?_
  refine lv_iload_n hx hb dX1_init_66 rfl (lv_at hl 0 rfl) ?_
  refine lv_bipush (v := 10) hx hb dX1_init_67 (by decide +kernel) ?_
  refine lv_icmp_ge (tgt := 91) hx hb dX1_init_69 (by decide) (fun c62 => absurd c62 (by decide +kernel)) (fun c62 => ?_)
  refine lv_aload_n hx hb dX1_init_72 rfl (lv_at hl 1 rfl) ?_
  refine va_get (D := (dC, dI)) (ci := 1) (v := .ref q3) (C := RX1) (T := TX1) (N := 5) hx hb hts inX1 hown hK hP 0 rfl rfl 1 (by decide) (hts _ pq217) (fun _ h9 => h9) rfl dX1_init_73 ?_
  refine lv_iload_n hx hb dX1_init_76 rfl (lv_at hl 0 rfl) ?_
  refine va_new (ci := 0) (fs := [.int 0, .int 0, .int 0, .int 0, .int 0, .int 0, .int 0, .int 0]) (C := RX0) (T := TX0) (N := 8) hx hb hts inX0 tyX0 tyX0_ok hown (hts _ pq109) (hts _ pq164) (hts _ pq77) hK hP hD hS hA rfl dfX0 (Nat.le_of_ble_eq_true rfl) (Nat.le_of_ble_eq_true rfl) dX1_init_77 (fun q63 H hP hD hS => ?_)
  have hP : va_P (dC, dI) vwCl [(h0, .inr (1, [.ref q1, .ref q3, .int 0, .int 0, .int 0])), (q1, .inl (k2, 8, .inr (.inr (.inr (.inr f36))))), (q3, .inl (k4, 10, .inr (.inr (.inr (.inr f61))))), (q63, .inr (0, [.int 0, .int 0, .int 0, .int 0, .int 0, .int 0, .int 0, .int 0]))] H := hP
  have hD : va_D A [(h0, .inr (1, [.ref q1, .ref q3, .int 0, .int 0, .int 0])), (q1, .inl (k2, 8, .inr (.inr (.inr (.inr f36))))), (q3, .inl (k4, 10, .inr (.inr (.inr (.inr f61))))), (q63, .inr (0, [.int 0, .int 0, .int 0, .int 0, .int 0, .int 0, .int 0, .int 0]))] := hD
  refine W.widen (k := 27) (n := 794) (Nat.le_of_ble_eq_true rfl) (Nat.le_of_ble_eq_true rfl) ?_
  refine lv_dup hx hb dX1_init_80 rfl ?_
  have hPc := hP.sub (ws' := [(q63, .inr (0, [.int 0, .int 0, .int 0, .int 0, .int 0, .int 0, .int 0, .int 0]))]) [3] rfl
  have hDc := hD.sub (ws' := [(q63, .inr (0, [.int 0, .int 0, .int 0, .int 0, .int 0, .int 0, .int 0, .int 0]))]) [3] (by decide) rfl
  have hKc := hK.sub (tys' := []) [] rfl
  refine ro_v (va_runIN (As := []) (rest := [.ref q63, .int 8, .ref q3]) ⟨hx, hb, hml, hown, hts⟩ (c_X0_init l dC dI q63 H.size  ) ⟨va_cnB 0 hts (gI pq167) rfl rfl rfl (xN_X1_34 hN) (hts _ pq77) (by decide +kernel) ⟨(Nat.le_of_ble_eq_true rfl), (Nat.le_of_ble_eq_true rfl)⟩, rfl, hts _ pq166⟩ (pc_S hPc hDc hKc hN) rfl rfl hl.1 rfl (lv_room (Nat.le_of_ble_eq_true rfl)) dX1_init_81 ⟨(Nat.le_of_ble_eq_true rfl), (Nat.le_of_ble_eq_true rfl)⟩) hS hP (fun H locs hP hS => ?_)
  refine va_astq hx hb hK hP hD hS 2 1 3 0 rfl rfl rfl rfl (in_d (by decide +kernel)) dX1_init_84 (fun H locs hP hD hS => ?_)
  obtain ⟨f64, hP, hD⟩ : ∃ f64 : Nat → Option Nat, va_P (dC, dI) vwCl [(h0, .inr (1, [.ref q1, .ref q3, .int 0, .int 0, .int 0])), (q1, .inl (k2, 8, .inr (.inr (.inr (.inr f36))))), (q3, .inl (k4, 10, .inr (.inr (.inr (.inr f64))))), (q63, .inr (0, [.int 0, .int 0, .int 0, .int 0, .int 0, .int 0, .int 0, .int 0]))] H ∧ va_D A [(h0, .inr (1, [.ref q1, .ref q3, .int 0, .int 0, .int 0])), (q1, .inl (k2, 8, .inr (.inr (.inr (.inr f36))))), (q3, .inl (k4, 10, .inr (.inr (.inr (.inr f64))))), (q63, .inr (0, [.int 0, .int 0, .int 0, .int 0, .int 0, .int 0, .int 0, .int 0]))] := ⟨_, hP, hD⟩
  have hP := hP.sub (ws' := [(h0, .inr (1, [.ref q1, .ref q3, .int 0, .int 0, .int 0])), (q1, .inl (k2, 8, .inr (.inr (.inr (.inr f36))))), (q3, .inl (k4, 10, .inr (.inr (.inr (.inr f64)))))]) [0, 1, 2] rfl
  have hD := hD.sub (ws' := [(h0, .inr (1, [.ref q1, .ref q3, .int 0, .int 0, .int 0])), (q1, .inl (k2, 8, .inr (.inr (.inr (.inr f36))))), (q3, .inl (k4, 10, .inr (.inr (.inr (.inr f64)))))]) [0, 1, 2] (by decide) rfl
  refine lv_iinc (v := 9) (lv' := [(1, .int 9), (0, .ref h0)]) hx hb dX1_init_85 hl (k := 0) rfl (by decide +kernel) (by decide) rfl (fun ls hl => ?_)
  refine lv_goto (tgt := 66) hx hb dX1_init_88 (by decide) ?_
  refine lv_iload_n hx hb dX1_init_66 rfl (lv_at hl 0 rfl) ?_
  refine lv_bipush (v := 10) hx hb dX1_init_67 (by decide +kernel) ?_
  refine lv_icmp_ge (tgt := 91) hx hb dX1_init_69 (by decide) (fun c65 => absurd c65 (by decide +kernel)) (fun c65 => ?_)
  refine lv_aload_n hx hb dX1_init_72 rfl (lv_at hl 1 rfl) ?_
  refine va_get (D := (dC, dI)) (ci := 1) (v := .ref q3) (C := RX1) (T := TX1) (N := 5) hx hb hts inX1 hown hK hP 0 rfl rfl 1 (by decide) (hts _ pq217) (fun _ h9 => h9) rfl dX1_init_73 ?_
  refine lv_iload_n hx hb dX1_init_76 rfl (lv_at hl 0 rfl) ?_
  refine va_new (ci := 0) (fs := [.int 0, .int 0, .int 0, .int 0, .int 0, .int 0, .int 0, .int 0]) (C := RX0) (T := TX0) (N := 8) hx hb hts inX0 tyX0 tyX0_ok hown (hts _ pq109) (hts _ pq164) (hts _ pq77) hK hP hD hS hA rfl dfX0 (Nat.le_of_ble_eq_true rfl) (Nat.le_of_ble_eq_true rfl) dX1_init_77 (fun q66 H hP hD hS => ?_)
  have hP : va_P (dC, dI) vwCl [(h0, .inr (1, [.ref q1, .ref q3, .int 0, .int 0, .int 0])), (q1, .inl (k2, 8, .inr (.inr (.inr (.inr f36))))), (q3, .inl (k4, 10, .inr (.inr (.inr (.inr f64))))), (q66, .inr (0, [.int 0, .int 0, .int 0, .int 0, .int 0, .int 0, .int 0, .int 0]))] H := hP
  have hD : va_D A [(h0, .inr (1, [.ref q1, .ref q3, .int 0, .int 0, .int 0])), (q1, .inl (k2, 8, .inr (.inr (.inr (.inr f36))))), (q3, .inl (k4, 10, .inr (.inr (.inr (.inr f64))))), (q66, .inr (0, [.int 0, .int 0, .int 0, .int 0, .int 0, .int 0, .int 0, .int 0]))] := hD
  refine W.widen (k := 28) (n := 802) (Nat.le_of_ble_eq_true rfl) (Nat.le_of_ble_eq_true rfl) ?_
  refine lv_dup hx hb dX1_init_80 rfl ?_
  have hPc := hP.sub (ws' := [(q66, .inr (0, [.int 0, .int 0, .int 0, .int 0, .int 0, .int 0, .int 0, .int 0]))]) [3] rfl
  have hDc := hD.sub (ws' := [(q66, .inr (0, [.int 0, .int 0, .int 0, .int 0, .int 0, .int 0, .int 0, .int 0]))]) [3] (by decide) rfl
  have hKc := hK.sub (tys' := []) [] rfl
  refine ro_v (va_runIN (As := []) (rest := [.ref q66, .int 9, .ref q3]) ⟨hx, hb, hml, hown, hts⟩ (c_X0_init l dC dI q66 H.size  ) ⟨va_cnB 0 hts (gI pq167) rfl rfl rfl (xN_X1_34 hN) (hts _ pq77) (by decide +kernel) ⟨(Nat.le_of_ble_eq_true rfl), (Nat.le_of_ble_eq_true rfl)⟩, rfl, hts _ pq166⟩ (pc_S hPc hDc hKc hN) rfl rfl hl.1 rfl (lv_room (Nat.le_of_ble_eq_true rfl)) dX1_init_81 ⟨(Nat.le_of_ble_eq_true rfl), (Nat.le_of_ble_eq_true rfl)⟩) hS hP (fun H locs hP hS => ?_)
  refine va_astq hx hb hK hP hD hS 2 1 3 0 rfl rfl rfl rfl (in_d (by decide +kernel)) dX1_init_84 (fun H locs hP hD hS => ?_)
  obtain ⟨f67, hP, hD⟩ : ∃ f67 : Nat → Option Nat, va_P (dC, dI) vwCl [(h0, .inr (1, [.ref q1, .ref q3, .int 0, .int 0, .int 0])), (q1, .inl (k2, 8, .inr (.inr (.inr (.inr f36))))), (q3, .inl (k4, 10, .inr (.inr (.inr (.inr f67))))), (q66, .inr (0, [.int 0, .int 0, .int 0, .int 0, .int 0, .int 0, .int 0, .int 0]))] H ∧ va_D A [(h0, .inr (1, [.ref q1, .ref q3, .int 0, .int 0, .int 0])), (q1, .inl (k2, 8, .inr (.inr (.inr (.inr f36))))), (q3, .inl (k4, 10, .inr (.inr (.inr (.inr f67))))), (q66, .inr (0, [.int 0, .int 0, .int 0, .int 0, .int 0, .int 0, .int 0, .int 0]))] := ⟨_, hP, hD⟩
  have hP := hP.sub (ws' := [(h0, .inr (1, [.ref q1, .ref q3, .int 0, .int 0, .int 0])), (q1, .inl (k2, 8, .inr (.inr (.inr (.inr f36))))), (q3, .inl (k4, 10, .inr (.inr (.inr (.inr f67)))))]) [0, 1, 2] rfl
  have hD := hD.sub (ws' := [(h0, .inr (1, [.ref q1, .ref q3, .int 0, .int 0, .int 0])), (q1, .inl (k2, 8, .inr (.inr (.inr (.inr f36))))), (q3, .inl (k4, 10, .inr (.inr (.inr (.inr f67)))))]) [0, 1, 2] (by decide) rfl
  refine lv_iinc (v := 10) (lv' := [(1, .int 10), (0, .ref h0)]) hx hb dX1_init_85 hl (k := 0) rfl (by decide +kernel) (by decide) rfl (fun ls hl => ?_)
  refine lv_goto (tgt := 66) hx hb dX1_init_88 (by decide) ?_
  refine lv_iload_n hx hb dX1_init_66 rfl (lv_at hl 0 rfl) ?_
  refine lv_bipush (v := 10) hx hb dX1_init_67 (by decide +kernel) ?_
  refine lv_icmp_ge (tgt := 91) hx hb dX1_init_69 (by decide) (fun c68 => ?_) (fun c68 => absurd (by decide +kernel) c68)
  have hP9 := hP.sub (ws' := [(h0, .inr (1, [.ref q1, .ref q3, .int 0, .int 0, .int 0]))]) [0] rfl
  have hD9 := hD.sub (ws' := [(h0, .inr (1, [.ref q1, .ref q3, .int 0, .int 0, .int 0]))]) [0] (by decide) rfl
  have hK9 := hK.sub (tys' := []) [] rfl
  exact W.vret hx hb hr (fun t ht hW => ⟨⟨(), rfl, trivial, ⟨q1, q3, by rw [ht]; exact hP9, va_K.moved hW.alike hK9, hD9⟩⟩, hS.F ht⟩) hS.2.2 dX1_init_91
end
section
abbrev cX2_init : ByteArray := prog_4_method_1_code
abbrev cX4_init : ByteArray := prog_6_method_1_code
abbrev cX5_init : ByteArray := prog_7_method_1_code
def yX4_init : MethodName := ⟨RX4, "<init>", "([B)V"⟩
def yX5_init : MethodName := ⟨RX5, "<init>", "(LMaskTouch$Field;)V"⟩
theorem dX2_init_0 : decode cX2_init 0 = .ok (.aload_n 0, 1) := by decide +kernel
theorem dX2_init_1 : decode cX2_init 1 = .ok (.invokespecial 3, 3) := by decide +kernel
theorem dX2_init_4 : decode cX2_init 4 = .ok (.aload_n 0, 1) := by decide +kernel
theorem dX2_init_5 : decode cX2_init 5 = .ok (.new 9, 3) := by decide +kernel
theorem dX2_init_8 : decode cX2_init 8 = .ok (.dup, 1) := by decide +kernel
theorem dX2_init_9 : decode cX2_init 9 = .ok (.invokespecial 11, 3) := by decide +kernel
theorem dX2_init_12 : decode cX2_init 12 = .ok (.putfield 12, 3) := by decide +kernel
theorem dX2_init_15 : decode cX2_init 15 = .ok (.aload_n 0, 1) := by decide +kernel
theorem dX2_init_16 : decode cX2_init 16 = .ok (.sipush 4000, 3) := by decide +kernel
theorem dX2_init_19 : decode cX2_init 19 = .ok (.newarray .int, 2) := by decide +kernel
theorem dX2_init_21 : decode cX2_init 21 = .ok (.putfield 18, 3) := by decide +kernel
theorem dX2_init_24 : decode cX2_init 24 = .ok (.aload_n 0, 1) := by decide +kernel
theorem dX2_init_25 : decode cX2_init 25 = .ok (.iconst 0, 1) := by decide +kernel
theorem dX2_init_26 : decode cX2_init 26 = .ok (.putfield 22, 3) := by decide +kernel
theorem dX2_init_29 : decode cX2_init 29 = .ok (.aload_n 0, 1) := by decide +kernel
theorem dX2_init_30 : decode cX2_init 30 = .ok (.iconst 0, 1) := by decide +kernel
theorem dX2_init_31 : decode cX2_init 31 = .ok (.putfield 26, 3) := by decide +kernel
theorem dX2_init_34 : decode cX2_init 34 = .ok (.aload_n 0, 1) := by decide +kernel
theorem dX2_init_35 : decode cX2_init 35 = .ok (.iconst 0, 1) := by decide +kernel
theorem dX2_init_36 : decode cX2_init 36 = .ok (.putfield 29, 3) := by decide +kernel
theorem dX2_init_39 : decode cX2_init 39 = .ok (.aload_n 0, 1) := by decide +kernel
theorem dX2_init_40 : decode cX2_init 40 = .ok (.iconst 0, 1) := by decide +kernel
theorem dX2_init_41 : decode cX2_init 41 = .ok (.putfield 32, 3) := by decide +kernel
theorem dX2_init_44 : decode cX2_init 44 = .ok (.aload_n 0, 1) := by decide +kernel
theorem dX2_init_45 : decode cX2_init 45 = .ok (.iconst 0, 1) := by decide +kernel
theorem dX2_init_46 : decode cX2_init 46 = .ok (.putfield 35, 3) := by decide +kernel
theorem dX2_init_49 : decode cX2_init 49 = .ok (.aload_n 0, 1) := by decide +kernel
theorem dX2_init_50 : decode cX2_init 50 = .ok (.iconst 0, 1) := by decide +kernel
theorem dX2_init_51 : decode cX2_init 51 = .ok (.putfield 38, 3) := by decide +kernel
theorem dX2_init_54 : decode cX2_init 54 = .ok (.return_, 1) := by decide +kernel
theorem dX4_init_0 : decode cX4_init 0 = .ok (.aload_n 0, 1) := by decide +kernel
theorem dX4_init_1 : decode cX4_init 1 = .ok (.invokespecial 3, 3) := by decide +kernel
theorem dX4_init_4 : decode cX4_init 4 = .ok (.aload_n 0, 1) := by decide +kernel
theorem dX4_init_5 : decode cX4_init 5 = .ok (.iconst 0, 1) := by decide +kernel
theorem dX4_init_6 : decode cX4_init 6 = .ok (.putfield 9, 3) := by decide +kernel
theorem dX4_init_9 : decode cX4_init 9 = .ok (.aload_n 0, 1) := by decide +kernel
theorem dX4_init_10 : decode cX4_init 10 = .ok (.iconst 0, 1) := by decide +kernel
theorem dX4_init_11 : decode cX4_init 11 = .ok (.putfield 15, 3) := by decide +kernel
theorem dX4_init_14 : decode cX4_init 14 = .ok (.aload_n 0, 1) := by decide +kernel
theorem dX4_init_15 : decode cX4_init 15 = .ok (.iconst 0, 1) := by decide +kernel
theorem dX4_init_16 : decode cX4_init 16 = .ok (.putfield 18, 3) := by decide +kernel
theorem dX4_init_19 : decode cX4_init 19 = .ok (.aload_n 0, 1) := by decide +kernel
theorem dX4_init_20 : decode cX4_init 20 = .ok (.iconst 0, 1) := by decide +kernel
theorem dX4_init_21 : decode cX4_init 21 = .ok (.putfield 21, 3) := by decide +kernel
theorem dX4_init_24 : decode cX4_init 24 = .ok (.aload_n 0, 1) := by decide +kernel
theorem dX4_init_25 : decode cX4_init 25 = .ok (.iconst 0, 1) := by decide +kernel
theorem dX4_init_26 : decode cX4_init 26 = .ok (.putfield 24, 3) := by decide +kernel
theorem dX4_init_29 : decode cX4_init 29 = .ok (.aload_n 0, 1) := by decide +kernel
theorem dX4_init_30 : decode cX4_init 30 = .ok (.aload_n 1, 1) := by decide +kernel
theorem dX4_init_31 : decode cX4_init 31 = .ok (.putfield 27, 3) := by decide +kernel
theorem dX4_init_34 : decode cX4_init 34 = .ok (.return_, 1) := by decide +kernel
theorem dX5_init_0 : decode cX5_init 0 = .ok (.aload_n 0, 1) := by decide +kernel
theorem dX5_init_1 : decode cX5_init 1 = .ok (.invokespecial 3, 3) := by decide +kernel
theorem dX5_init_4 : decode cX5_init 4 = .ok (.aload_n 0, 1) := by decide +kernel
theorem dX5_init_5 : decode cX5_init 5 = .ok (.bipush 10, 2) := by decide +kernel
theorem dX5_init_7 : decode cX5_init 7 = .ok (.anewarray 9, 3) := by decide +kernel
theorem dX5_init_10 : decode cX5_init 10 = .ok (.putfield 11, 3) := by decide +kernel
theorem dX5_init_13 : decode cX5_init 13 = .ok (.aload_n 0, 1) := by decide +kernel
theorem dX5_init_14 : decode cX5_init 14 = .ok (.iconst 0, 1) := by decide +kernel
theorem dX5_init_15 : decode cX5_init 15 = .ok (.putfield 17, 3) := by decide +kernel
theorem dX5_init_18 : decode cX5_init 18 = .ok (.aload_n 0, 1) := by decide +kernel
theorem dX5_init_19 : decode cX5_init 19 = .ok (.iconst (-1), 1) := by decide +kernel
theorem dX5_init_20 : decode cX5_init 20 = .ok (.putfield 21, 3) := by decide +kernel
theorem dX5_init_23 : decode cX5_init 23 = .ok (.aload_n 0, 1) := by decide +kernel
theorem dX5_init_24 : decode cX5_init 24 = .ok (.iconst 0, 1) := by decide +kernel
theorem dX5_init_25 : decode cX5_init 25 = .ok (.putfield 24, 3) := by decide +kernel
theorem dX5_init_28 : decode cX5_init 28 = .ok (.aload_n 0, 1) := by decide +kernel
theorem dX5_init_29 : decode cX5_init 29 = .ok (.iconst 0, 1) := by decide +kernel
theorem dX5_init_30 : decode cX5_init 30 = .ok (.putfield 27, 3) := by decide +kernel
theorem dX5_init_33 : decode cX5_init 33 = .ok (.aload_n 0, 1) := by decide +kernel
theorem dX5_init_34 : decode cX5_init 34 = .ok (.iconst 0, 1) := by decide +kernel
theorem dX5_init_35 : decode cX5_init 35 = .ok (.putfield 30, 3) := by decide +kernel
theorem dX5_init_38 : decode cX5_init 38 = .ok (.aload_n 0, 1) := by decide +kernel
theorem dX5_init_39 : decode cX5_init 39 = .ok (.iconst 0, 1) := by decide +kernel
theorem dX5_init_40 : decode cX5_init 40 = .ok (.putfield 33, 3) := by decide +kernel
theorem dX5_init_43 : decode cX5_init 43 = .ok (.aload_n 0, 1) := by decide +kernel
theorem dX5_init_44 : decode cX5_init 44 = .ok (.iconst 0, 1) := by decide +kernel
theorem dX5_init_45 : decode cX5_init 45 = .ok (.putfield 36, 3) := by decide +kernel
theorem dX5_init_48 : decode cX5_init 48 = .ok (.aload_n 0, 1) := by decide +kernel
theorem dX5_init_49 : decode cX5_init 49 = .ok (.aload_n 1, 1) := by decide +kernel
theorem dX5_init_50 : decode cX5_init 50 = .ok (.putfield 39, 3) := by decide +kernel
theorem dX5_init_53 : decode cX5_init 53 = .ok (.iconst 0, 1) := by decide +kernel
theorem dX5_init_54 : decode cX5_init 54 = .ok (.istore_n 2, 1) := by decide +kernel
theorem dX5_init_55 : decode cX5_init 55 = .ok (.iload_n 2, 1) := by decide +kernel
theorem dX5_init_56 : decode cX5_init 56 = .ok (.bipush 10, 2) := by decide +kernel
theorem dX5_init_58 : decode cX5_init 58 = .ok (.if_icmp .ge 22, 3) := by decide +kernel
theorem dX5_init_61 : decode cX5_init 61 = .ok (.aload_n 0, 1) := by decide +kernel
theorem dX5_init_62 : decode cX5_init 62 = .ok (.getfield 11, 3) := by decide +kernel
theorem dX5_init_65 : decode cX5_init 65 = .ok (.iload_n 2, 1) := by decide +kernel
theorem dX5_init_66 : decode cX5_init 66 = .ok (.new 9, 3) := by decide +kernel
theorem dX5_init_69 : decode cX5_init 69 = .ok (.dup, 1) := by decide +kernel
theorem dX5_init_70 : decode cX5_init 70 = .ok (.invokespecial 43, 3) := by decide +kernel
theorem dX5_init_73 : decode cX5_init 73 = .ok (.aastore, 1) := by decide +kernel
theorem dX5_init_74 : decode cX5_init 74 = .ok (.iinc 2 1, 3) := by decide +kernel
theorem dX5_init_77 : decode cX5_init 77 = .ok (.goto (-22), 3) := by decide +kernel
theorem dX5_init_80 : decode cX5_init 80 = .ok (.return_, 1) := by decide +kernel
set_option maxRecDepth 100000 in
theorem pq246 : Cond.methodLink RX4 3 objectInit ∈ pw := pw_mem (i := 246) (by decide +kernel) rfl
set_option maxRecDepth 100000 in
theorem pq247 : Cond.fieldLink RX4 27 "MaskTouch$Reader" "text" "[B" ∈ pw := pw_mem (i := 247) (by decide +kernel) rfl
set_option maxRecDepth 100000 in
theorem pq248 : Cond.fieldLink RX4 9 "MaskTouch$Reader" "length" "I" ∈ pw := pw_mem (i := 248) (by decide +kernel) rfl
set_option maxRecDepth 100000 in
theorem pq249 : Cond.fieldLink RX4 15 "MaskTouch$Reader" "spot" "I" ∈ pw := pw_mem (i := 249) (by decide +kernel) rfl
set_option maxRecDepth 100000 in
theorem pq250 : Cond.fieldLink RX4 18 "MaskTouch$Reader" "wordStart" "I" ∈ pw := pw_mem (i := 250) (by decide +kernel) rfl
set_option maxRecDepth 100000 in
theorem pq251 : Cond.fieldLink RX4 21 "MaskTouch$Reader" "number" "I" ∈ pw := pw_mem (i := 251) (by decide +kernel) rfl
set_option maxRecDepth 100000 in
theorem pq252 : Cond.fieldLink RX4 24 "MaskTouch$Reader" "fault" "I" ∈ pw := pw_mem (i := 252) (by decide +kernel) rfl
set_option maxRecDepth 100000 in
theorem pq271 : Cond.methodLink RX5 3 objectInit ∈ pw := pw_mem (i := 271) (by decide +kernel) rfl
set_option maxRecDepth 100000 in
theorem pq272 : Cond.classLink RX5 9 RX3 ∈ pw := pw_mem (i := 272) (by decide +kernel) rfl
set_option maxRecDepth 100000 in
theorem pq274 : Cond.fieldLink RX5 39 "MaskTouch$Scene" "field" "LMaskTouch$Field;" ∈ pw := pw_mem (i := 274) (by decide +kernel) rfl
set_option maxRecDepth 100000 in
theorem pq275 : Cond.fieldLink RX5 11 "MaskTouch$Scene" "shapes" "[LMaskTouch$Mask;" ∈ pw := pw_mem (i := 275) (by decide +kernel) rfl
set_option maxRecDepth 100000 in
theorem pq276 : Cond.fieldLink RX5 17 "MaskTouch$Scene" "steps" "I" ∈ pw := pw_mem (i := 276) (by decide +kernel) rfl
set_option maxRecDepth 100000 in
theorem pq278 : Cond.fieldLink RX5 21 "MaskTouch$Scene" "stopper" "I" ∈ pw := pw_mem (i := 278) (by decide +kernel) rfl
set_option maxRecDepth 100000 in
theorem pq280 : Cond.fieldLink RX5 24 "MaskTouch$Scene" "goneX" "I" ∈ pw := pw_mem (i := 280) (by decide +kernel) rfl
set_option maxRecDepth 100000 in
theorem pq281 : Cond.fieldLink RX5 27 "MaskTouch$Scene" "goneY" "I" ∈ pw := pw_mem (i := 281) (by decide +kernel) rfl
set_option maxRecDepth 100000 in
theorem pq282 : Cond.fieldLink RX5 30 "MaskTouch$Scene" "found" "I" ∈ pw := pw_mem (i := 282) (by decide +kernel) rfl
set_option maxRecDepth 100000 in
theorem pq284 : Cond.fieldLink RX5 33 "MaskTouch$Scene" "foundX" "I" ∈ pw := pw_mem (i := 284) (by decide +kernel) rfl
set_option maxRecDepth 100000 in
theorem pq286 : Cond.fieldLink RX5 36 "MaskTouch$Scene" "foundY" "I" ∈ pw := pw_mem (i := 286) (by decide +kernel) rfl
set_option maxRecDepth 100000 in
theorem pq314 : Cond.methodLink RX2 3 objectInit ∈ pw := pw_mem (i := 314) (by decide +kernel) rfl
set_option maxRecDepth 100000 in
theorem pq315 : Cond.classLink RX2 9 RX3 ∈ pw := pw_mem (i := 315) (by decide +kernel) rfl
set_option maxRecDepth 100000 in
theorem pq317 : Cond.fieldLink RX2 12 "MaskTouch$Flood" "open" "LMaskTouch$Mask;" ∈ pw := pw_mem (i := 317) (by decide +kernel) rfl
set_option maxRecDepth 100000 in
theorem pq318 : Cond.fieldLink RX2 18 "MaskTouch$Flood" "queue" "[I" ∈ pw := pw_mem (i := 318) (by decide +kernel) rfl
set_option maxRecDepth 100000 in
theorem pq319 : Cond.fieldLink RX2 22 "MaskTouch$Flood" "queued" "I" ∈ pw := pw_mem (i := 319) (by decide +kernel) rfl
set_option maxRecDepth 100000 in
theorem pq320 : Cond.fieldLink RX2 26 "MaskTouch$Flood" "size" "I" ∈ pw := pw_mem (i := 320) (by decide +kernel) rfl
set_option maxRecDepth 100000 in
theorem pq322 : Cond.fieldLink RX2 29 "MaskTouch$Flood" "left" "I" ∈ pw := pw_mem (i := 322) (by decide +kernel) rfl
set_option maxRecDepth 100000 in
theorem pq324 : Cond.fieldLink RX2 32 "MaskTouch$Flood" "top" "I" ∈ pw := pw_mem (i := 324) (by decide +kernel) rfl
set_option maxRecDepth 100000 in
theorem pq326 : Cond.fieldLink RX2 35 "MaskTouch$Flood" "right" "I" ∈ pw := pw_mem (i := 326) (by decide +kernel) rfl
set_option maxRecDepth 100000 in
theorem pq328 : Cond.fieldLink RX2 38 "MaskTouch$Flood" "bottom" "I" ∈ pw := pw_mem (i := 328) (by decide +kernel) rfl
set_option maxRecDepth 100000 in
theorem pq347 : Cond.arrayClass .int ∈ pw := pw_mem (i := 347) (by decide +kernel) rfl
set_option maxHeartbeats 4000000 in
set_option maxRecDepth 100000 in
theorem c_X4_init (l : Launch) (dC : Nat → ClassId) (dI : Nat → Nat → Nat) (h0 p0 : Nat) (sz : Nat) : Met l yX4_init (.code yX4_init cX4_init 2 none :: pw) ({ frames := 1, cells := 0, slots := 0, locals := 12 }) (pc (dC, dI) [.ref h0, .ref p0] sz [(h0, .inr (4, [.null, .int 0, .int 0, .int 0, .int 0, .int 0]))] []) (va_Qv (fun (_ : Unit) => True) (fun _ t => wB (dC, dI) [(h0, .inr (4, [.ref p0, .int 0, .int 0, .int 0, .int 0, .int 0]))] [] (va_A [(h0, .inr (4, [.null, .int 0, .int 0, .int 0, .int 0, .int 0]))] sz) t) (va_A [(h0, .inr (4, [.null, .int 0, .int 0, .int 0, .int 0, .int 0]))] sz)) 0 0 (va_A [(h0, .inr (4, [.null, .int 0, .int 0, .int 0, .int 0, .int 0]))] sz) := by
  refine Met.ofW (cc := cX4_init) (maxL := 2) (ret := none) (by decide +kernel) rfl ?_
  intro p e s m args below meth c s₁ B hml hv
  obtain ⟨rfl, hsz, hP, hK, hD0, hN⟩ := hv
  have hx := B.exec
  have hb := B.bytes
  have hr := B.returns
  have hts := fun w (h : w ∈ pw) => atoms_spec (ws := Cond.code yX4_init cX4_init 2 none :: pw) B.pre w (List.mem_cons_of_mem _ h)
  have hown : s.vm.findClass RX4 = some m.cls := findClass_of_methodNamed B.named
  have hlocks := B.notSynchronized
  have hin : meth.name = "<init>" := (name_of_methodNamed B.named B.method).1
  subst hsz
  have hD := hD0.self (sz := s.heap.size)
  generalize hAe : va_A [(h0, .inr (4, [.null, .int 0, .int 0, .int 0, .int 0, .int 0]))] s.heap.size = A at hD ⊢
  have hA : ∀ q : Nat, s.heap.size ≤ q → A q := fun q h => by rw [← hAe]; exact Or.inr h
  obtain ⟨H, hHe⟩ : ∃ H : Heap, H = s.heap := ⟨_, rfl⟩
  have hS : va_S A s.heap H [] := by rw [hHe]; exact va_S.rf
  rw [← hHe] at hP
  have hl := lv_entry ([.ref h0, .ref p0]) (n := 2) (Nat.le_of_ble_eq_true rfl)
  rw [lg_entry_eq]
  generalize (lg_sl ([.ref h0, .ref p0]) ++ List.replicate (2 - (lg_sl ([.ref h0, .ref p0])).length) Slot.unset).toArray = ls at hl ⊢
  have hl : lv_has ls 2 [(0, .ref h0), (1, .ref p0)] := hl
  rw [← hHe]
  refine lv_aload_n hx hb dX4_init_0 rfl (lv_at hl 0 rfl) ?_
  refine W.objInit hx hb hown (hts _ pq246) (hts _ pq99) (hts _ pq100) rfl (by rw [hml]; exact hl.1) rfl dX4_init_1 (Nat.le_of_ble_eq_true rfl) (Nat.le_of_ble_eq_true rfl) ?_
  refine W.eq (g2 := F0 m 4 ls []) rfl ?_
  refine lv_aload_n hx hb dX4_init_4 rfl (lv_at hl 0 rfl) ?_
  refine lv_iconst (v := 0) hx hb dX4_init_5 (by decide +kernel) ?_
  refine va_put (D := (dC, dI)) (ci := 4) (v := .int 0) (ty := tyX4 1) (C := RX4) (T := TX4) (N := 6) hx hb hts inX4 tyX4 tyX4_ok nmX4 hown hK hP hD hS 0 rfl rfl 1 (by decide) (hts _ pq248) (fun _ h9 => h9) rfl (by decide +kernel) rfl rfl (Nat.le_of_ble_eq_true rfl) dX4_init_6 (fun H locs hP hD hS => ?_)
  have hP : va_P (dC, dI) vwCl [(h0, .inr (4, [.null, .int 0, .int 0, .int 0, .int 0, .int 0]))] H := hP
  have hD : va_D A [(h0, .inr (4, [.null, .int 0, .int 0, .int 0, .int 0, .int 0]))] := hD
  refine lv_aload_n hx hb dX4_init_9 rfl (lv_at hl 0 rfl) ?_
  refine lv_iconst (v := 0) hx hb dX4_init_10 (by decide +kernel) ?_
  refine va_put (D := (dC, dI)) (ci := 4) (v := .int 0) (ty := tyX4 2) (C := RX4) (T := TX4) (N := 6) hx hb hts inX4 tyX4 tyX4_ok nmX4 hown hK hP hD hS 0 rfl rfl 2 (by decide) (hts _ pq249) (fun _ h9 => h9) rfl (by decide +kernel) rfl rfl (Nat.le_of_ble_eq_true rfl) dX4_init_11 (fun H locs hP hD hS => ?_)
  have hP : va_P (dC, dI) vwCl [(h0, .inr (4, [.null, .int 0, .int 0, .int 0, .int 0, .int 0]))] H := hP
  have hD : va_D A [(h0, .inr (4, [.null, .int 0, .int 0, .int 0, .int 0, .int 0]))] := hD
  refine lv_aload_n hx hb dX4_init_14 rfl (lv_at hl 0 rfl) ?_
  refine lv_iconst (v := 0) hx hb dX4_init_15 (by decide +kernel) ?_
  refine va_put (D := (dC, dI)) (ci := 4) (v := .int 0) (ty := tyX4 3) (C := RX4) (T := TX4) (N := 6) hx hb hts inX4 tyX4 tyX4_ok nmX4 hown hK hP hD hS 0 rfl rfl 3 (by decide) (hts _ pq250) (fun _ h9 => h9) rfl (by decide +kernel) rfl rfl (Nat.le_of_ble_eq_true rfl) dX4_init_16 (fun H locs hP hD hS => ?_)
  have hP : va_P (dC, dI) vwCl [(h0, .inr (4, [.null, .int 0, .int 0, .int 0, .int 0, .int 0]))] H := hP
  have hD : va_D A [(h0, .inr (4, [.null, .int 0, .int 0, .int 0, .int 0, .int 0]))] := hD
  refine lv_aload_n hx hb dX4_init_19 rfl (lv_at hl 0 rfl) ?_
  refine lv_iconst (v := 0) hx hb dX4_init_20 (by decide +kernel) ?_
  refine va_put (D := (dC, dI)) (ci := 4) (v := .int 0) (ty := tyX4 4) (C := RX4) (T := TX4) (N := 6) hx hb hts inX4 tyX4 tyX4_ok nmX4 hown hK hP hD hS 0 rfl rfl 4 (by decide) (hts _ pq251) (fun _ h9 => h9) rfl (by decide +kernel) rfl rfl (Nat.le_of_ble_eq_true rfl) dX4_init_21 (fun H locs hP hD hS => ?_)
  have hP : va_P (dC, dI) vwCl [(h0, .inr (4, [.null, .int 0, .int 0, .int 0, .int 0, .int 0]))] H := hP
  have hD : va_D A [(h0, .inr (4, [.null, .int 0, .int 0, .int 0, .int 0, .int 0]))] := hD
  refine lv_aload_n hx hb dX4_init_24 rfl (lv_at hl 0 rfl) ?_
  refine lv_iconst (v := 0) hx hb dX4_init_25 (by decide +kernel) ?_
  refine va_put (D := (dC, dI)) (ci := 4) (v := .int 0) (ty := tyX4 5) (C := RX4) (T := TX4) (N := 6) hx hb hts inX4 tyX4 tyX4_ok nmX4 hown hK hP hD hS 0 rfl rfl 5 (by decide) (hts _ pq252) (fun _ h9 => h9) rfl (by decide +kernel) rfl rfl (Nat.le_of_ble_eq_true rfl) dX4_init_26 (fun H locs hP hD hS => ?_)
  have hP : va_P (dC, dI) vwCl [(h0, .inr (4, [.null, .int 0, .int 0, .int 0, .int 0, .int 0]))] H := hP
  have hD : va_D A [(h0, .inr (4, [.null, .int 0, .int 0, .int 0, .int 0, .int 0]))] := hD
  refine lv_aload_n hx hb dX4_init_29 rfl (lv_at hl 0 rfl) ?_
  refine lv_aload_n hx hb dX4_init_30 rfl (lv_at hl 1 rfl) ?_
  refine va_putF (D := (dC, dI)) (ci := 4) (v := .ref p0) (ty := tyX4 0) (C := RX4) (T := TX4) (N := 6) hx hb hts inX4 tyX4 tyX4_ok nmX4 hown hK hP hD hS 0 rfl rfl 0 (by decide) (hts _ pq247) (fun _ h9 => h9) rfl hin rfl (by decide +kernel) rfl rfl (Nat.le_of_ble_eq_true rfl) dX4_init_31 (fun H locs hP hD hS => ?_)
  have hP : va_P (dC, dI) vwCl [(h0, .inr (4, [.ref p0, .int 0, .int 0, .int 0, .int 0, .int 0]))] H := hP
  have hD : va_D A [(h0, .inr (4, [.ref p0, .int 0, .int 0, .int 0, .int 0, .int 0]))] := hD
  have hP9 := hP.sub (ws' := [(h0, .inr (4, [.ref p0, .int 0, .int 0, .int 0, .int 0, .int 0]))]) [0] rfl
  have hD9 := hD.sub (ws' := [(h0, .inr (4, [.ref p0, .int 0, .int 0, .int 0, .int 0, .int 0]))]) [0] (by decide) rfl
  have hK9 := hK.sub (tys' := []) [] rfl
  exact W.vret hx hb hr (fun t ht hW => ⟨⟨(), rfl, trivial, ⟨by rw [ht]; exact hP9, va_K.moved hW.alike hK9, hD9⟩⟩, hS.F ht⟩) hS.2.2 dX4_init_34

set_option maxHeartbeats 4000000 in
set_option maxRecDepth 100000 in
theorem c_X5_init (l : Launch) (dC : Nat → ClassId) (dI : Nat → Nat → Nat) (h0 p0 : Nat) (sz : Nat) : Met l yX5_init (.code yX5_init cX5_init 3 none :: pw) ({ frames := 2, cells := 21, slots := 890, locals := 32 }) (pc (dC, dI) [.ref h0, .ref p0] sz [(h0, .inr (5, [.null, .null, .int 0, .int 0, .int 0, .int 0, .int 0, .int 0, .int 0]))] []) (va_Qv (fun (_ : Unit) => True) (fun _ t => ∃ (ss : Nat), wB (dC, dI) [(h0, .inr (5, [.ref p0, .ref ss, .int 0, .int (-1), .int 0, .int 0, .int 0, .int 0, .int 0]))] [] (va_A [(h0, .inr (5, [.null, .null, .int 0, .int 0, .int 0, .int 0, .int 0, .int 0, .int 0]))] sz) t) (va_A [(h0, .inr (5, [.null, .null, .int 0, .int 0, .int 0, .int 0, .int 0, .int 0, .int 0]))] sz)) 21 890 (va_A [(h0, .inr (5, [.null, .null, .int 0, .int 0, .int 0, .int 0, .int 0, .int 0, .int 0]))] sz) := by
  refine Met.ofW (cc := cX5_init) (maxL := 3) (ret := none) (by decide +kernel) rfl ?_
  intro p e s m args below meth c s₁ B hml hv
  obtain ⟨rfl, hsz, hP, hK, hD0, hN⟩ := hv
  have hx := B.exec
  have hb := B.bytes
  have hr := B.returns
  have hts := fun w (h : w ∈ pw) => atoms_spec (ws := Cond.code yX5_init cX5_init 3 none :: pw) B.pre w (List.mem_cons_of_mem _ h)
  have hown : s.vm.findClass RX5 = some m.cls := findClass_of_methodNamed B.named
  have hlocks := B.notSynchronized
  have hin : meth.name = "<init>" := (name_of_methodNamed B.named B.method).1
  subst hsz
  have hD := hD0.self (sz := s.heap.size)
  generalize hAe : va_A [(h0, .inr (5, [.null, .null, .int 0, .int 0, .int 0, .int 0, .int 0, .int 0, .int 0]))] s.heap.size = A at hD ⊢
  have hA : ∀ q : Nat, s.heap.size ≤ q → A q := fun q h => by rw [← hAe]; exact Or.inr h
  obtain ⟨H, hHe⟩ : ∃ H : Heap, H = s.heap := ⟨_, rfl⟩
  have hS : va_S A s.heap H [] := by rw [hHe]; exact va_S.rf
  rw [← hHe] at hP
  have hl := lv_entry ([.ref h0, .ref p0]) (n := 3) (Nat.le_of_ble_eq_true rfl)
  rw [lg_entry_eq]
  generalize (lg_sl ([.ref h0, .ref p0]) ++ List.replicate (3 - (lg_sl ([.ref h0, .ref p0])).length) Slot.unset).toArray = ls at hl ⊢
  have hl : lv_has ls 3 [(0, .ref h0), (1, .ref p0)] := hl
  rw [← hHe]
  refine lv_aload_n hx hb dX5_init_0 rfl (lv_at hl 0 rfl) ?_
  refine W.objInit hx hb hown (hts _ pq271) (hts _ pq99) (hts _ pq100) rfl (by rw [hml]; exact hl.1) rfl dX5_init_1 (Nat.le_of_ble_eq_true rfl) (Nat.le_of_ble_eq_true rfl) ?_
  refine W.eq (g2 := F0 m 4 ls []) rfl ?_
  refine lv_aload_n hx hb dX5_init_4 rfl (lv_at hl 0 rfl) ?_
  refine lv_bipush (v := 10) hx hb dX5_init_5 (by decide +kernel) ?_
  refine va_newq (C := RX3) (n := 10) (N' := 10) hx hb hown (hts _ pq272) (xN_aoX3 hN) hK hP hD hS hA (by decide +kernel) (by decide +kernel) (Nat.le_of_ble_eq_true rfl) (Nat.le_of_ble_eq_true rfl) (Nat.le_of_ble_eq_true rfl) dX5_init_7 (fun q1 k2 H hK hP hD hS => ?_)
  have hP : va_P (dC, dI) vwCl [(h0, .inr (5, [.null, .null, .int 0, .int 0, .int 0, .int 0, .int 0, .int 0, .int 0])), (q1, .inl (k2, 10, .inr (.inr (.inr (.inr (fun _ => none))))))] H := hP
  have hD : va_D A [(h0, .inr (5, [.null, .null, .int 0, .int 0, .int 0, .int 0, .int 0, .int 0, .int 0])), (q1, .inl (k2, 10, .inr (.inr (.inr (.inr (fun _ => none))))))] := hD
  have hK : va_K (dC, dI) vwCl [(k2, .object RX3)] s := hK
  refine W.widen (k := 1) (n := 10) (Nat.le_of_ble_eq_true rfl) (Nat.le_of_ble_eq_true rfl) ?_
  refine va_putF (D := (dC, dI)) (ci := 5) (v := .ref q1) (ty := tyX5 1) (C := RX5) (T := TX5) (N := 9) hx hb hts inX5 tyX5 tyX5_ok nmX5 hown hK hP hD hS 0 rfl rfl 1 (by decide) (hts _ pq275) (fun _ h9 => h9) rfl hin rfl (by decide +kernel) rfl rfl (Nat.le_of_ble_eq_true rfl) dX5_init_10 (fun H locs hP hD hS => ?_)
  have hP : va_P (dC, dI) vwCl [(h0, .inr (5, [.null, .ref q1, .int 0, .int 0, .int 0, .int 0, .int 0, .int 0, .int 0])), (q1, .inl (k2, 10, .inr (.inr (.inr (.inr (fun _ => none))))))] H := hP
  have hD : va_D A [(h0, .inr (5, [.null, .ref q1, .int 0, .int 0, .int 0, .int 0, .int 0, .int 0, .int 0])), (q1, .inl (k2, 10, .inr (.inr (.inr (.inr (fun _ => none))))))] := hD
  refine lv_aload_n hx hb dX5_init_13 rfl (lv_at hl 0 rfl) ?_
  refine lv_iconst (v := 0) hx hb dX5_init_14 (by decide +kernel) ?_
  refine va_put (D := (dC, dI)) (ci := 5) (v := .int 0) (ty := tyX5 2) (C := RX5) (T := TX5) (N := 9) hx hb hts inX5 tyX5 tyX5_ok nmX5 hown hK hP hD hS 0 rfl rfl 2 (by decide) (hts _ pq276) (fun _ h9 => h9) rfl (by decide +kernel) rfl rfl (Nat.le_of_ble_eq_true rfl) dX5_init_15 (fun H locs hP hD hS => ?_)
  have hP : va_P (dC, dI) vwCl [(h0, .inr (5, [.null, .ref q1, .int 0, .int 0, .int 0, .int 0, .int 0, .int 0, .int 0])), (q1, .inl (k2, 10, .inr (.inr (.inr (.inr (fun _ => none))))))] H := hP
  have hD : va_D A [(h0, .inr (5, [.null, .ref q1, .int 0, .int 0, .int 0, .int 0, .int 0, .int 0, .int 0])), (q1, .inl (k2, 10, .inr (.inr (.inr (.inr (fun _ => none))))))] := hD
  refine lv_aload_n hx hb dX5_init_18 rfl (lv_at hl 0 rfl) ?_
  refine lv_iconst (v := (-1)) hx hb dX5_init_19 (by decide +kernel) ?_
  refine va_put (D := (dC, dI)) (ci := 5) (v := .int (-1)) (ty := tyX5 3) (C := RX5) (T := TX5) (N := 9) hx hb hts inX5 tyX5 tyX5_ok nmX5 hown hK hP hD hS 0 rfl rfl 3 (by decide) (hts _ pq278) (fun _ h9 => h9) rfl (by decide +kernel) rfl rfl (Nat.le_of_ble_eq_true rfl) dX5_init_20 (fun H locs hP hD hS => ?_)
  have hP : va_P (dC, dI) vwCl [(h0, .inr (5, [.null, .ref q1, .int 0, .int (-1), .int 0, .int 0, .int 0, .int 0, .int 0])), (q1, .inl (k2, 10, .inr (.inr (.inr (.inr (fun _ => none))))))] H := hP
  have hD : va_D A [(h0, .inr (5, [.null, .ref q1, .int 0, .int (-1), .int 0, .int 0, .int 0, .int 0, .int 0])), (q1, .inl (k2, 10, .inr (.inr (.inr (.inr (fun _ => none))))))] := hD
  refine lv_aload_n hx hb dX5_init_23 rfl (lv_at hl 0 rfl) ?_
  refine lv_iconst (v := 0) hx hb dX5_init_24 (by decide +kernel) ?_
  refine va_put (D := (dC, dI)) (ci := 5) (v := .int 0) (ty := tyX5 4) (C := RX5) (T := TX5) (N := 9) hx hb hts inX5 tyX5 tyX5_ok nmX5 hown hK hP hD hS 0 rfl rfl 4 (by decide) (hts _ pq280) (fun _ h9 => h9) rfl (by decide +kernel) rfl rfl (Nat.le_of_ble_eq_true rfl) dX5_init_25 (fun H locs hP hD hS => ?_)
  have hP : va_P (dC, dI) vwCl [(h0, .inr (5, [.null, .ref q1, .int 0, .int (-1), .int 0, .int 0, .int 0, .int 0, .int 0])), (q1, .inl (k2, 10, .inr (.inr (.inr (.inr (fun _ => none))))))] H := hP
  have hD : va_D A [(h0, .inr (5, [.null, .ref q1, .int 0, .int (-1), .int 0, .int 0, .int 0, .int 0, .int 0])), (q1, .inl (k2, 10, .inr (.inr (.inr (.inr (fun _ => none))))))] := hD
  refine lv_aload_n hx hb dX5_init_28 rfl (lv_at hl 0 rfl) ?_
  refine lv_iconst (v := 0) hx hb dX5_init_29 (by decide +kernel) ?_
  refine va_put (D := (dC, dI)) (ci := 5) (v := .int 0) (ty := tyX5 5) (C := RX5) (T := TX5) (N := 9) hx hb hts inX5 tyX5 tyX5_ok nmX5 hown hK hP hD hS 0 rfl rfl 5 (by decide) (hts _ pq281) (fun _ h9 => h9) rfl (by decide +kernel) rfl rfl (Nat.le_of_ble_eq_true rfl) dX5_init_30 (fun H locs hP hD hS => ?_)
  have hP : va_P (dC, dI) vwCl [(h0, .inr (5, [.null, .ref q1, .int 0, .int (-1), .int 0, .int 0, .int 0, .int 0, .int 0])), (q1, .inl (k2, 10, .inr (.inr (.inr (.inr (fun _ => none))))))] H := hP
  have hD : va_D A [(h0, .inr (5, [.null, .ref q1, .int 0, .int (-1), .int 0, .int 0, .int 0, .int 0, .int 0])), (q1, .inl (k2, 10, .inr (.inr (.inr (.inr (fun _ => none))))))] := hD
  refine lv_aload_n hx hb dX5_init_33 rfl (lv_at hl 0 rfl) ?_
  refine lv_iconst (v := 0) hx hb dX5_init_34 (by decide +kernel) ?_
  refine va_put (D := (dC, dI)) (ci := 5) (v := .int 0) (ty := tyX5 6) (C := RX5) (T := TX5) (N := 9) hx hb hts inX5 tyX5 tyX5_ok nmX5 hown hK hP hD hS 0 rfl rfl 6 (by decide) (hts _ pq282) (fun _ h9 => h9) rfl (by decide +kernel) rfl rfl (Nat.le_of_ble_eq_true rfl) dX5_init_35 (fun H locs hP hD hS => ?_)
  have hP : va_P (dC, dI) vwCl [(h0, .inr (5, [.null, .ref q1, .int 0, .int (-1), .int 0, .int 0, .int 0, .int 0, .int 0])), (q1, .inl (k2, 10, .inr (.inr (.inr (.inr (fun _ => none))))))] H := hP
  have hD : va_D A [(h0, .inr (5, [.null, .ref q1, .int 0, .int (-1), .int 0, .int 0, .int 0, .int 0, .int 0])), (q1, .inl (k2, 10, .inr (.inr (.inr (.inr (fun _ => none))))))] := hD
  refine lv_aload_n hx hb dX5_init_38 rfl (lv_at hl 0 rfl) ?_
  refine lv_iconst (v := 0) hx hb dX5_init_39 (by decide +kernel) ?_
  refine va_put (D := (dC, dI)) (ci := 5) (v := .int 0) (ty := tyX5 7) (C := RX5) (T := TX5) (N := 9) hx hb hts inX5 tyX5 tyX5_ok nmX5 hown hK hP hD hS 0 rfl rfl 7 (by decide) (hts _ pq284) (fun _ h9 => h9) rfl (by decide +kernel) rfl rfl (Nat.le_of_ble_eq_true rfl) dX5_init_40 (fun H locs hP hD hS => ?_)
  have hP : va_P (dC, dI) vwCl [(h0, .inr (5, [.null, .ref q1, .int 0, .int (-1), .int 0, .int 0, .int 0, .int 0, .int 0])), (q1, .inl (k2, 10, .inr (.inr (.inr (.inr (fun _ => none))))))] H := hP
  have hD : va_D A [(h0, .inr (5, [.null, .ref q1, .int 0, .int (-1), .int 0, .int 0, .int 0, .int 0, .int 0])), (q1, .inl (k2, 10, .inr (.inr (.inr (.inr (fun _ => none))))))] := hD
  refine lv_aload_n hx hb dX5_init_43 rfl (lv_at hl 0 rfl) ?_
  refine lv_iconst (v := 0) hx hb dX5_init_44 (by decide +kernel) ?_
  refine va_put (D := (dC, dI)) (ci := 5) (v := .int 0) (ty := tyX5 8) (C := RX5) (T := TX5) (N := 9) hx hb hts inX5 tyX5 tyX5_ok nmX5 hown hK hP hD hS 0 rfl rfl 8 (by decide) (hts _ pq286) (fun _ h9 => h9) rfl (by decide +kernel) rfl rfl (Nat.le_of_ble_eq_true rfl) dX5_init_45 (fun H locs hP hD hS => ?_)
  have hP : va_P (dC, dI) vwCl [(h0, .inr (5, [.null, .ref q1, .int 0, .int (-1), .int 0, .int 0, .int 0, .int 0, .int 0])), (q1, .inl (k2, 10, .inr (.inr (.inr (.inr (fun _ => none))))))] H := hP
  have hD : va_D A [(h0, .inr (5, [.null, .ref q1, .int 0, .int (-1), .int 0, .int 0, .int 0, .int 0, .int 0])), (q1, .inl (k2, 10, .inr (.inr (.inr (.inr (fun _ => none))))))] := hD
  refine lv_aload_n hx hb dX5_init_48 rfl (lv_at hl 0 rfl) ?_
  refine lv_aload_n hx hb dX5_init_49 rfl (lv_at hl 1 rfl) ?_
  refine va_putF (D := (dC, dI)) (ci := 5) (v := .ref p0) (ty := tyX5 0) (C := RX5) (T := TX5) (N := 9) hx hb hts inX5 tyX5 tyX5_ok nmX5 hown hK hP hD hS 0 rfl rfl 0 (by decide) (hts _ pq274) (fun _ h9 => h9) rfl hin rfl (by decide +kernel) rfl rfl (Nat.le_of_ble_eq_true rfl) dX5_init_50 (fun H locs hP hD hS => ?_)
  have hP : va_P (dC, dI) vwCl [(h0, .inr (5, [.ref p0, .ref q1, .int 0, .int (-1), .int 0, .int 0, .int 0, .int 0, .int 0])), (q1, .inl (k2, 10, .inr (.inr (.inr (.inr (fun _ => none))))))] H := hP
  have hD : va_D A [(h0, .inr (5, [.ref p0, .ref q1, .int 0, .int (-1), .int 0, .int 0, .int 0, .int 0, .int 0])), (q1, .inl (k2, 10, .inr (.inr (.inr (.inr (fun _ => none))))))] := hD
  refine lv_iconst (v := 0) hx hb dX5_init_53 (by decide +kernel) ?_
  refine lv_istore_n (lv' := [(2, .int 0), (0, .ref h0), (1, .ref p0)]) hx hb dX5_init_54 rfl hl (by decide) rfl (fun ls hl => ?_)
  refine lv_iload_n hx hb dX5_init_55 rfl (lv_at hl 0 rfl) ?_
  refine lv_bipush (v := 10) hx hb dX5_init_56 (by decide +kernel) ?_
  refine lv_icmp_ge (tgt := 80) hx hb dX5_init_58 (by decide) (fun c3 => absurd c3 (by decide +kernel)) (fun c3 => ?_)
  refine lv_aload_n hx hb dX5_init_61 rfl (lv_at hl 1 rfl) ?_
  refine va_get (D := (dC, dI)) (ci := 5) (v := .ref q1) (C := RX5) (T := TX5) (N := 9) hx hb hts inX5 hown hK hP 0 rfl rfl 1 (by decide) (hts _ pq275) (fun _ h9 => h9) rfl dX5_init_62 ?_
  refine lv_iload_n hx hb dX5_init_65 rfl (lv_at hl 0 rfl) ?_
  refine va_new (ci := 3) (fs := [.int 0, .int 0, .null, .int 0, .int 0, .int 0, .int 0, .int 0]) (C := RX3) (T := TX3) (N := 8) hx hb hts inX3 tyX3 tyX3_ok hown (hts _ pq272) (hts _ pq111) (hts _ pq76) hK hP hD hS hA rfl dfX3 (Nat.le_of_ble_eq_true rfl) (Nat.le_of_ble_eq_true rfl) dX5_init_66 (fun q4 H hP hD hS => ?_)
  have hP : va_P (dC, dI) vwCl [(h0, .inr (5, [.ref p0, .ref q1, .int 0, .int (-1), .int 0, .int 0, .int 0, .int 0, .int 0])), (q1, .inl (k2, 10, .inr (.inr (.inr (.inr (fun _ => none)))))), (q4, .inr (3, [.int 0, .int 0, .null, .int 0, .int 0, .int 0, .int 0, .int 0]))] H := hP
  have hD : va_D A [(h0, .inr (5, [.ref p0, .ref q1, .int 0, .int (-1), .int 0, .int 0, .int 0, .int 0, .int 0])), (q1, .inl (k2, 10, .inr (.inr (.inr (.inr (fun _ => none)))))), (q4, .inr (3, [.int 0, .int 0, .null, .int 0, .int 0, .int 0, .int 0, .int 0]))] := hD
  refine W.widen (k := 2) (n := 18) (Nat.le_of_ble_eq_true rfl) (Nat.le_of_ble_eq_true rfl) ?_
  refine lv_dup hx hb dX5_init_69 rfl ?_
  have hPc := hP.sub (ws' := [(q4, .inr (3, [.int 0, .int 0, .null, .int 0, .int 0, .int 0, .int 0, .int 0]))]) [2] rfl
  have hDc := hD.sub (ws' := [(q4, .inr (3, [.int 0, .int 0, .null, .int 0, .int 0, .int 0, .int 0, .int 0]))]) [2] (by decide) rfl
  have hKc := hK.sub (tys' := []) [] rfl
  have hFc := va_free (wc := [(q4, .inr (3, [.int 0, .int 0, .null, .int 0, .int 0, .int 0, .int 0, .int 0]))]) hD hS hA [2] rfl
  refine va_callv (va_runIN (As := []) (rest := [.ref q4, .int 0, .ref q1]) ⟨hx, hb, hml, hown, hts⟩ (c_X3_init l dC dI q4 H.size  ) ⟨va_cnB 0 hts (gI pq114) rfl rfl rfl (xN_X5_43 hN) (hts _ pq76) (by decide +kernel) ⟨(Nat.le_of_ble_eq_true rfl), (Nat.le_of_ble_eq_true rfl)⟩, rfl, hts _ pq113⟩ (pc_S hPc hDc hKc hN) rfl rfl hl.1 rfl (lv_room (Nat.le_of_ble_eq_true rfl)) dX5_init_70 ⟨(Nat.le_of_ble_eq_true rfl), (Nat.le_of_ble_eq_true rfl)⟩) hS (fun q _ h => hFc q h) hFc (fun u t H1 locs ht hvm hw hB hz1 hk1 hS => ?_)
  obtain ⟨q5, hP1, hK1, hD1⟩ := hB
  rw [ht] at hP1
  have hK1 := va_K.moved hvm.symm hK1
  obtain ⟨hP, hD⟩ := va_join (wr := [(h0, .inr (5, [.ref p0, .ref q1, .int 0, .int (-1), .int 0, .int 0, .int 0, .int 0, .int 0])), (q1, .inl (k2, 10, .inr (.inr (.inr (.inr (fun _ => none))))))]) (w1 := [(q4, .inr (3, [.int 0, .int 0, .ref q5, .int 0, .int 0, .int 0, .int 0, .int 0]))]) hP hD [2] [0, 1] rfl rfl (by decide) (by decide) hk1 hFc hP1 hD1
  generalize H1 = H at hP hS ⊢
  have hP : va_P (dC, dI) vwCl [(h0, .inr (5, [.ref p0, .ref q1, .int 0, .int (-1), .int 0, .int 0, .int 0, .int 0, .int 0])), (q1, .inl (k2, 10, .inr (.inr (.inr (.inr (fun _ => none)))))), (q4, .inr (3, [.int 0, .int 0, .ref q5, .int 0, .int 0, .int 0, .int 0, .int 0]))] H := hP
  have hD : va_D A [(h0, .inr (5, [.ref p0, .ref q1, .int 0, .int (-1), .int 0, .int 0, .int 0, .int 0, .int 0])), (q1, .inl (k2, 10, .inr (.inr (.inr (.inr (fun _ => none)))))), (q4, .inr (3, [.int 0, .int 0, .ref q5, .int 0, .int 0, .int 0, .int 0, .int 0]))] := hD
  refine W.widen (k := 3) (n := 98) (Nat.le_of_ble_eq_true rfl) (Nat.le_of_ble_eq_true rfl) ?_
  refine va_astq hx hb hK hP hD hS 1 0 2 3 rfl rfl rfl rfl (in_d (by decide +kernel)) dX5_init_73 (fun H locs hP hD hS => ?_)
  obtain ⟨f6, hP, hD⟩ : ∃ f6 : Nat → Option Nat, va_P (dC, dI) vwCl [(h0, .inr (5, [.ref p0, .ref q1, .int 0, .int (-1), .int 0, .int 0, .int 0, .int 0, .int 0])), (q1, .inl (k2, 10, .inr (.inr (.inr (.inr f6))))), (q4, .inr (3, [.int 0, .int 0, .ref q5, .int 0, .int 0, .int 0, .int 0, .int 0]))] H ∧ va_D A [(h0, .inr (5, [.ref p0, .ref q1, .int 0, .int (-1), .int 0, .int 0, .int 0, .int 0, .int 0])), (q1, .inl (k2, 10, .inr (.inr (.inr (.inr f6))))), (q4, .inr (3, [.int 0, .int 0, .ref q5, .int 0, .int 0, .int 0, .int 0, .int 0]))] := ⟨_, hP, hD⟩
  have hP := hP.sub (ws' := [(h0, .inr (5, [.ref p0, .ref q1, .int 0, .int (-1), .int 0, .int 0, .int 0, .int 0, .int 0])), (q1, .inl (k2, 10, .inr (.inr (.inr (.inr f6)))))]) [0, 1] rfl
  have hD := hD.sub (ws' := [(h0, .inr (5, [.ref p0, .ref q1, .int 0, .int (-1), .int 0, .int 0, .int 0, .int 0, .int 0])), (q1, .inl (k2, 10, .inr (.inr (.inr (.inr f6)))))]) [0, 1] (by decide) rfl
  refine lv_iinc (v := 1) (lv' := [(2, .int 1), (0, .ref h0), (1, .ref p0)]) hx hb dX5_init_74 hl (k := 0) rfl (by decide +kernel) (by decide) rfl (fun ls hl => ?_)
  refine lv_goto (tgt := 55) hx hb dX5_init_77 (by decide) ?_
  refine lv_iload_n hx hb dX5_init_55 rfl (lv_at hl 0 rfl) ?_
  refine lv_bipush (v := 10) hx hb dX5_init_56 (by decide +kernel) ?_
  refine lv_icmp_ge (tgt := 80) hx hb dX5_init_58 (by decide) (fun c7 => absurd c7 (by decide +kernel)) (fun c7 => ?_)
  refine lv_aload_n hx hb dX5_init_61 rfl (lv_at hl 1 rfl) ?_
  refine va_get (D := (dC, dI)) (ci := 5) (v := .ref q1) (C := RX5) (T := TX5) (N := 9) hx hb hts inX5 hown hK hP 0 rfl rfl 1 (by decide) (hts _ pq275) (fun _ h9 => h9) rfl dX5_init_62 ?_
  refine lv_iload_n hx hb dX5_init_65 rfl (lv_at hl 0 rfl) ?_
  refine va_new (ci := 3) (fs := [.int 0, .int 0, .null, .int 0, .int 0, .int 0, .int 0, .int 0]) (C := RX3) (T := TX3) (N := 8) hx hb hts inX3 tyX3 tyX3_ok hown (hts _ pq272) (hts _ pq111) (hts _ pq76) hK hP hD hS hA rfl dfX3 (Nat.le_of_ble_eq_true rfl) (Nat.le_of_ble_eq_true rfl) dX5_init_66 (fun q8 H hP hD hS => ?_)
  have hP : va_P (dC, dI) vwCl [(h0, .inr (5, [.ref p0, .ref q1, .int 0, .int (-1), .int 0, .int 0, .int 0, .int 0, .int 0])), (q1, .inl (k2, 10, .inr (.inr (.inr (.inr f6))))), (q8, .inr (3, [.int 0, .int 0, .null, .int 0, .int 0, .int 0, .int 0, .int 0]))] H := hP
  have hD : va_D A [(h0, .inr (5, [.ref p0, .ref q1, .int 0, .int (-1), .int 0, .int 0, .int 0, .int 0, .int 0])), (q1, .inl (k2, 10, .inr (.inr (.inr (.inr f6))))), (q8, .inr (3, [.int 0, .int 0, .null, .int 0, .int 0, .int 0, .int 0, .int 0]))] := hD
  refine W.widen (k := 4) (n := 106) (Nat.le_of_ble_eq_true rfl) (Nat.le_of_ble_eq_true rfl) ?_
  refine lv_dup hx hb dX5_init_69 rfl ?_
  have hPc := hP.sub (ws' := [(q8, .inr (3, [.int 0, .int 0, .null, .int 0, .int 0, .int 0, .int 0, .int 0]))]) [2] rfl
  have hDc := hD.sub (ws' := [(q8, .inr (3, [.int 0, .int 0, .null, .int 0, .int 0, .int 0, .int 0, .int 0]))]) [2] (by decide) rfl
  have hKc := hK.sub (tys' := []) [] rfl
  have hFc := va_free (wc := [(q8, .inr (3, [.int 0, .int 0, .null, .int 0, .int 0, .int 0, .int 0, .int 0]))]) hD hS hA [2] rfl
  refine va_callv (va_runIN (As := []) (rest := [.ref q8, .int 1, .ref q1]) ⟨hx, hb, hml, hown, hts⟩ (c_X3_init l dC dI q8 H.size  ) ⟨va_cnB 0 hts (gI pq114) rfl rfl rfl (xN_X5_43 hN) (hts _ pq76) (by decide +kernel) ⟨(Nat.le_of_ble_eq_true rfl), (Nat.le_of_ble_eq_true rfl)⟩, rfl, hts _ pq113⟩ (pc_S hPc hDc hKc hN) rfl rfl hl.1 rfl (lv_room (Nat.le_of_ble_eq_true rfl)) dX5_init_70 ⟨(Nat.le_of_ble_eq_true rfl), (Nat.le_of_ble_eq_true rfl)⟩) hS (fun q _ h => hFc q h) hFc (fun u t H1 locs ht hvm hw hB hz1 hk1 hS => ?_)
  obtain ⟨q9, hP1, hK1, hD1⟩ := hB
  rw [ht] at hP1
  have hK1 := va_K.moved hvm.symm hK1
  obtain ⟨hP, hD⟩ := va_join (wr := [(h0, .inr (5, [.ref p0, .ref q1, .int 0, .int (-1), .int 0, .int 0, .int 0, .int 0, .int 0])), (q1, .inl (k2, 10, .inr (.inr (.inr (.inr f6)))))]) (w1 := [(q8, .inr (3, [.int 0, .int 0, .ref q9, .int 0, .int 0, .int 0, .int 0, .int 0]))]) hP hD [2] [0, 1] rfl rfl (by decide) (by decide) hk1 hFc hP1 hD1
  generalize H1 = H at hP hS ⊢
  have hP : va_P (dC, dI) vwCl [(h0, .inr (5, [.ref p0, .ref q1, .int 0, .int (-1), .int 0, .int 0, .int 0, .int 0, .int 0])), (q1, .inl (k2, 10, .inr (.inr (.inr (.inr f6))))), (q8, .inr (3, [.int 0, .int 0, .ref q9, .int 0, .int 0, .int 0, .int 0, .int 0]))] H := hP
  have hD : va_D A [(h0, .inr (5, [.ref p0, .ref q1, .int 0, .int (-1), .int 0, .int 0, .int 0, .int 0, .int 0])), (q1, .inl (k2, 10, .inr (.inr (.inr (.inr f6))))), (q8, .inr (3, [.int 0, .int 0, .ref q9, .int 0, .int 0, .int 0, .int 0, .int 0]))] := hD
  refine W.widen (k := 5) (n := 186) (Nat.le_of_ble_eq_true rfl) (Nat.le_of_ble_eq_true rfl) ?_
  refine va_astq hx hb hK hP hD hS 1 0 2 3 rfl rfl rfl rfl (in_d (by decide +kernel)) dX5_init_73 (fun H locs hP hD hS => ?_)
  obtain ⟨f10, hP, hD⟩ : ∃ f10 : Nat → Option Nat, va_P (dC, dI) vwCl [(h0, .inr (5, [.ref p0, .ref q1, .int 0, .int (-1), .int 0, .int 0, .int 0, .int 0, .int 0])), (q1, .inl (k2, 10, .inr (.inr (.inr (.inr f10))))), (q8, .inr (3, [.int 0, .int 0, .ref q9, .int 0, .int 0, .int 0, .int 0, .int 0]))] H ∧ va_D A [(h0, .inr (5, [.ref p0, .ref q1, .int 0, .int (-1), .int 0, .int 0, .int 0, .int 0, .int 0])), (q1, .inl (k2, 10, .inr (.inr (.inr (.inr f10))))), (q8, .inr (3, [.int 0, .int 0, .ref q9, .int 0, .int 0, .int 0, .int 0, .int 0]))] := ⟨_, hP, hD⟩
  have hP := hP.sub (ws' := [(h0, .inr (5, [.ref p0, .ref q1, .int 0, .int (-1), .int 0, .int 0, .int 0, .int 0, .int 0])), (q1, .inl (k2, 10, .inr (.inr (.inr (.inr f10)))))]) [0, 1] rfl
  have hD := hD.sub (ws' := [(h0, .inr (5, [.ref p0, .ref q1, .int 0, .int (-1), .int 0, .int 0, .int 0, .int 0, .int 0])), (q1, .inl (k2, 10, .inr (.inr (.inr (.inr f10)))))]) [0, 1] (by decide) rfl
  refine lv_iinc (v := 2) (lv' := [(2, .int 2), (0, .ref h0), (1, .ref p0)]) hx hb dX5_init_74 hl (k := 0) rfl (by decide +kernel) (by decide) rfl (fun ls hl => ?_)
  refine lv_goto (tgt := 55) hx hb dX5_init_77 (by decide) ?_
  refine lv_iload_n hx hb dX5_init_55 rfl (lv_at hl 0 rfl) ?_
  refine lv_bipush (v := 10) hx hb dX5_init_56 (by decide +kernel) ?_
  refine lv_icmp_ge (tgt := 80) hx hb dX5_init_58 (by decide) (fun c11 => absurd c11 (by decide +kernel)) (fun c11 => ?_)
  refine lv_aload_n hx hb dX5_init_61 rfl (lv_at hl 1 rfl) ?_
  refine va_get (D := (dC, dI)) (ci := 5) (v := .ref q1) (C := RX5) (T := TX5) (N := 9) hx hb hts inX5 hown hK hP 0 rfl rfl 1 (by decide) (hts _ pq275) (fun _ h9 => h9) rfl dX5_init_62 ?_
  refine lv_iload_n hx hb dX5_init_65 rfl (lv_at hl 0 rfl) ?_
  refine va_new (ci := 3) (fs := [.int 0, .int 0, .null, .int 0, .int 0, .int 0, .int 0, .int 0]) (C := RX3) (T := TX3) (N := 8) hx hb hts inX3 tyX3 tyX3_ok hown (hts _ pq272) (hts _ pq111) (hts _ pq76) hK hP hD hS hA rfl dfX3 (Nat.le_of_ble_eq_true rfl) (Nat.le_of_ble_eq_true rfl) dX5_init_66 (fun q12 H hP hD hS => ?_)
  have hP : va_P (dC, dI) vwCl [(h0, .inr (5, [.ref p0, .ref q1, .int 0, .int (-1), .int 0, .int 0, .int 0, .int 0, .int 0])), (q1, .inl (k2, 10, .inr (.inr (.inr (.inr f10))))), (q12, .inr (3, [.int 0, .int 0, .null, .int 0, .int 0, .int 0, .int 0, .int 0]))] H := hP
  have hD : va_D A [(h0, .inr (5, [.ref p0, .ref q1, .int 0, .int (-1), .int 0, .int 0, .int 0, .int 0, .int 0])), (q1, .inl (k2, 10, .inr (.inr (.inr (.inr f10))))), (q12, .inr (3, [.int 0, .int 0, .null, .int 0, .int 0, .int 0, .int 0, .int 0]))] := hD
  refine W.widen (k := 6) (n := 194) (Nat.le_of_ble_eq_true rfl) (Nat.le_of_ble_eq_true rfl) ?_
  refine lv_dup hx hb dX5_init_69 rfl ?_
  have hPc := hP.sub (ws' := [(q12, .inr (3, [.int 0, .int 0, .null, .int 0, .int 0, .int 0, .int 0, .int 0]))]) [2] rfl
  have hDc := hD.sub (ws' := [(q12, .inr (3, [.int 0, .int 0, .null, .int 0, .int 0, .int 0, .int 0, .int 0]))]) [2] (by decide) rfl
  have hKc := hK.sub (tys' := []) [] rfl
  have hFc := va_free (wc := [(q12, .inr (3, [.int 0, .int 0, .null, .int 0, .int 0, .int 0, .int 0, .int 0]))]) hD hS hA [2] rfl
  refine va_callv (va_runIN (As := []) (rest := [.ref q12, .int 2, .ref q1]) ⟨hx, hb, hml, hown, hts⟩ (c_X3_init l dC dI q12 H.size  ) ⟨va_cnB 0 hts (gI pq114) rfl rfl rfl (xN_X5_43 hN) (hts _ pq76) (by decide +kernel) ⟨(Nat.le_of_ble_eq_true rfl), (Nat.le_of_ble_eq_true rfl)⟩, rfl, hts _ pq113⟩ (pc_S hPc hDc hKc hN) rfl rfl hl.1 rfl (lv_room (Nat.le_of_ble_eq_true rfl)) dX5_init_70 ⟨(Nat.le_of_ble_eq_true rfl), (Nat.le_of_ble_eq_true rfl)⟩) hS (fun q _ h => hFc q h) hFc (fun u t H1 locs ht hvm hw hB hz1 hk1 hS => ?_)
  obtain ⟨q13, hP1, hK1, hD1⟩ := hB
  rw [ht] at hP1
  have hK1 := va_K.moved hvm.symm hK1
  obtain ⟨hP, hD⟩ := va_join (wr := [(h0, .inr (5, [.ref p0, .ref q1, .int 0, .int (-1), .int 0, .int 0, .int 0, .int 0, .int 0])), (q1, .inl (k2, 10, .inr (.inr (.inr (.inr f10)))))]) (w1 := [(q12, .inr (3, [.int 0, .int 0, .ref q13, .int 0, .int 0, .int 0, .int 0, .int 0]))]) hP hD [2] [0, 1] rfl rfl (by decide) (by decide) hk1 hFc hP1 hD1
  generalize H1 = H at hP hS ⊢
  have hP : va_P (dC, dI) vwCl [(h0, .inr (5, [.ref p0, .ref q1, .int 0, .int (-1), .int 0, .int 0, .int 0, .int 0, .int 0])), (q1, .inl (k2, 10, .inr (.inr (.inr (.inr f10))))), (q12, .inr (3, [.int 0, .int 0, .ref q13, .int 0, .int 0, .int 0, .int 0, .int 0]))] H := hP
  have hD : va_D A [(h0, .inr (5, [.ref p0, .ref q1, .int 0, .int (-1), .int 0, .int 0, .int 0, .int 0, .int 0])), (q1, .inl (k2, 10, .inr (.inr (.inr (.inr f10))))), (q12, .inr (3, [.int 0, .int 0, .ref q13, .int 0, .int 0, .int 0, .int 0, .int 0]))] := hD
  refine W.widen (k := 7) (n := 274) (Nat.le_of_ble_eq_true rfl) (Nat.le_of_ble_eq_true rfl) ?_
  refine va_astq hx hb hK hP hD hS 1 0 2 3 rfl rfl rfl rfl (in_d (by decide +kernel)) dX5_init_73 (fun H locs hP hD hS => ?_)
  obtain ⟨f14, hP, hD⟩ : ∃ f14 : Nat → Option Nat, va_P (dC, dI) vwCl [(h0, .inr (5, [.ref p0, .ref q1, .int 0, .int (-1), .int 0, .int 0, .int 0, .int 0, .int 0])), (q1, .inl (k2, 10, .inr (.inr (.inr (.inr f14))))), (q12, .inr (3, [.int 0, .int 0, .ref q13, .int 0, .int 0, .int 0, .int 0, .int 0]))] H ∧ va_D A [(h0, .inr (5, [.ref p0, .ref q1, .int 0, .int (-1), .int 0, .int 0, .int 0, .int 0, .int 0])), (q1, .inl (k2, 10, .inr (.inr (.inr (.inr f14))))), (q12, .inr (3, [.int 0, .int 0, .ref q13, .int 0, .int 0, .int 0, .int 0, .int 0]))] := ⟨_, hP, hD⟩
  have hP := hP.sub (ws' := [(h0, .inr (5, [.ref p0, .ref q1, .int 0, .int (-1), .int 0, .int 0, .int 0, .int 0, .int 0])), (q1, .inl (k2, 10, .inr (.inr (.inr (.inr f14)))))]) [0, 1] rfl
  have hD := hD.sub (ws' := [(h0, .inr (5, [.ref p0, .ref q1, .int 0, .int (-1), .int 0, .int 0, .int 0, .int 0, .int 0])), (q1, .inl (k2, 10, .inr (.inr (.inr (.inr f14)))))]) [0, 1] (by decide) rfl
  refine lv_iinc (v := 3) (lv' := [(2, .int 3), (0, .ref h0), (1, .ref p0)]) hx hb dX5_init_74 hl (k := 0) rfl (by decide +kernel) (by decide) rfl (fun ls hl => ?_)
  refine lv_goto (tgt := 55) hx hb dX5_init_77 (by decide) ?_
  refine lv_iload_n hx hb dX5_init_55 rfl (lv_at hl 0 rfl) ?_
  refine lv_bipush (v := 10) hx hb dX5_init_56 (by decide +kernel) ?_
  refine lv_icmp_ge (tgt := 80) hx hb dX5_init_58 (by decide) (fun c15 => absurd c15 (by decide +kernel)) (fun c15 => ?_)
  refine lv_aload_n hx hb dX5_init_61 rfl (lv_at hl 1 rfl) ?_
  refine va_get (D := (dC, dI)) (ci := 5) (v := .ref q1) (C := RX5) (T := TX5) (N := 9) hx hb hts inX5 hown hK hP 0 rfl rfl 1 (by decide) (hts _ pq275) (fun _ h9 => h9) rfl dX5_init_62 ?_
  refine lv_iload_n hx hb dX5_init_65 rfl (lv_at hl 0 rfl) ?_
  refine va_new (ci := 3) (fs := [.int 0, .int 0, .null, .int 0, .int 0, .int 0, .int 0, .int 0]) (C := RX3) (T := TX3) (N := 8) hx hb hts inX3 tyX3 tyX3_ok hown (hts _ pq272) (hts _ pq111) (hts _ pq76) hK hP hD hS hA rfl dfX3 (Nat.le_of_ble_eq_true rfl) (Nat.le_of_ble_eq_true rfl) dX5_init_66 (fun q16 H hP hD hS => ?_)
  have hP : va_P (dC, dI) vwCl [(h0, .inr (5, [.ref p0, .ref q1, .int 0, .int (-1), .int 0, .int 0, .int 0, .int 0, .int 0])), (q1, .inl (k2, 10, .inr (.inr (.inr (.inr f14))))), (q16, .inr (3, [.int 0, .int 0, .null, .int 0, .int 0, .int 0, .int 0, .int 0]))] H := hP
  have hD : va_D A [(h0, .inr (5, [.ref p0, .ref q1, .int 0, .int (-1), .int 0, .int 0, .int 0, .int 0, .int 0])), (q1, .inl (k2, 10, .inr (.inr (.inr (.inr f14))))), (q16, .inr (3, [.int 0, .int 0, .null, .int 0, .int 0, .int 0, .int 0, .int 0]))] := hD
  refine W.widen (k := 8) (n := 282) (Nat.le_of_ble_eq_true rfl) (Nat.le_of_ble_eq_true rfl) ?_
  refine lv_dup hx hb dX5_init_69 rfl ?_
  have hPc := hP.sub (ws' := [(q16, .inr (3, [.int 0, .int 0, .null, .int 0, .int 0, .int 0, .int 0, .int 0]))]) [2] rfl
  have hDc := hD.sub (ws' := [(q16, .inr (3, [.int 0, .int 0, .null, .int 0, .int 0, .int 0, .int 0, .int 0]))]) [2] (by decide) rfl
  have hKc := hK.sub (tys' := []) [] rfl
  have hFc := va_free (wc := [(q16, .inr (3, [.int 0, .int 0, .null, .int 0, .int 0, .int 0, .int 0, .int 0]))]) hD hS hA [2] rfl
  refine va_callv (va_runIN (As := []) (rest := [.ref q16, .int 3, .ref q1]) ⟨hx, hb, hml, hown, hts⟩ (c_X3_init l dC dI q16 H.size  ) ⟨va_cnB 0 hts (gI pq114) rfl rfl rfl (xN_X5_43 hN) (hts _ pq76) (by decide +kernel) ⟨(Nat.le_of_ble_eq_true rfl), (Nat.le_of_ble_eq_true rfl)⟩, rfl, hts _ pq113⟩ (pc_S hPc hDc hKc hN) rfl rfl hl.1 rfl (lv_room (Nat.le_of_ble_eq_true rfl)) dX5_init_70 ⟨(Nat.le_of_ble_eq_true rfl), (Nat.le_of_ble_eq_true rfl)⟩) hS (fun q _ h => hFc q h) hFc (fun u t H1 locs ht hvm hw hB hz1 hk1 hS => ?_)
  obtain ⟨q17, hP1, hK1, hD1⟩ := hB
  rw [ht] at hP1
  have hK1 := va_K.moved hvm.symm hK1
  obtain ⟨hP, hD⟩ := va_join (wr := [(h0, .inr (5, [.ref p0, .ref q1, .int 0, .int (-1), .int 0, .int 0, .int 0, .int 0, .int 0])), (q1, .inl (k2, 10, .inr (.inr (.inr (.inr f14)))))]) (w1 := [(q16, .inr (3, [.int 0, .int 0, .ref q17, .int 0, .int 0, .int 0, .int 0, .int 0]))]) hP hD [2] [0, 1] rfl rfl (by decide) (by decide) hk1 hFc hP1 hD1
  generalize H1 = H at hP hS ⊢
  have hP : va_P (dC, dI) vwCl [(h0, .inr (5, [.ref p0, .ref q1, .int 0, .int (-1), .int 0, .int 0, .int 0, .int 0, .int 0])), (q1, .inl (k2, 10, .inr (.inr (.inr (.inr f14))))), (q16, .inr (3, [.int 0, .int 0, .ref q17, .int 0, .int 0, .int 0, .int 0, .int 0]))] H := hP
  have hD : va_D A [(h0, .inr (5, [.ref p0, .ref q1, .int 0, .int (-1), .int 0, .int 0, .int 0, .int 0, .int 0])), (q1, .inl (k2, 10, .inr (.inr (.inr (.inr f14))))), (q16, .inr (3, [.int 0, .int 0, .ref q17, .int 0, .int 0, .int 0, .int 0, .int 0]))] := hD
  refine W.widen (k := 9) (n := 362) (Nat.le_of_ble_eq_true rfl) (Nat.le_of_ble_eq_true rfl) ?_
  refine va_astq hx hb hK hP hD hS 1 0 2 3 rfl rfl rfl rfl (in_d (by decide +kernel)) dX5_init_73 (fun H locs hP hD hS => ?_)
  obtain ⟨f18, hP, hD⟩ : ∃ f18 : Nat → Option Nat, va_P (dC, dI) vwCl [(h0, .inr (5, [.ref p0, .ref q1, .int 0, .int (-1), .int 0, .int 0, .int 0, .int 0, .int 0])), (q1, .inl (k2, 10, .inr (.inr (.inr (.inr f18))))), (q16, .inr (3, [.int 0, .int 0, .ref q17, .int 0, .int 0, .int 0, .int 0, .int 0]))] H ∧ va_D A [(h0, .inr (5, [.ref p0, .ref q1, .int 0, .int (-1), .int 0, .int 0, .int 0, .int 0, .int 0])), (q1, .inl (k2, 10, .inr (.inr (.inr (.inr f18))))), (q16, .inr (3, [.int 0, .int 0, .ref q17, .int 0, .int 0, .int 0, .int 0, .int 0]))] := ⟨_, hP, hD⟩
  have hP := hP.sub (ws' := [(h0, .inr (5, [.ref p0, .ref q1, .int 0, .int (-1), .int 0, .int 0, .int 0, .int 0, .int 0])), (q1, .inl (k2, 10, .inr (.inr (.inr (.inr f18)))))]) [0, 1] rfl
  have hD := hD.sub (ws' := [(h0, .inr (5, [.ref p0, .ref q1, .int 0, .int (-1), .int 0, .int 0, .int 0, .int 0, .int 0])), (q1, .inl (k2, 10, .inr (.inr (.inr (.inr f18)))))]) [0, 1] (by decide) rfl
  refine lv_iinc (v := 4) (lv' := [(2, .int 4), (0, .ref h0), (1, .ref p0)]) hx hb dX5_init_74 hl (k := 0) rfl (by decide +kernel) (by decide) rfl (fun ls hl => ?_)
  refine lv_goto (tgt := 55) hx hb dX5_init_77 (by decide) ?_
  refine lv_iload_n hx hb dX5_init_55 rfl (lv_at hl 0 rfl) ?_
  refine lv_bipush (v := 10) hx hb dX5_init_56 (by decide +kernel) ?_
  refine lv_icmp_ge (tgt := 80) hx hb dX5_init_58 (by decide) (fun c19 => absurd c19 (by decide +kernel)) (fun c19 => ?_)
  refine lv_aload_n hx hb dX5_init_61 rfl (lv_at hl 1 rfl) ?_
  refine va_get (D := (dC, dI)) (ci := 5) (v := .ref q1) (C := RX5) (T := TX5) (N := 9) hx hb hts inX5 hown hK hP 0 rfl rfl 1 (by decide) (hts _ pq275) (fun _ h9 => h9) rfl dX5_init_62 ?_
  refine lv_iload_n hx hb dX5_init_65 rfl (lv_at hl 0 rfl) ?_
  refine va_new (ci := 3) (fs := [.int 0, .int 0, .null, .int 0, .int 0, .int 0, .int 0, .int 0]) (C := RX3) (T := TX3) (N := 8) hx hb hts inX3 tyX3 tyX3_ok hown (hts _ pq272) (hts _ pq111) (hts _ pq76) hK hP hD hS hA rfl dfX3 (Nat.le_of_ble_eq_true rfl) (Nat.le_of_ble_eq_true rfl) dX5_init_66 (fun q20 H hP hD hS => ?_)
  have hP : va_P (dC, dI) vwCl [(h0, .inr (5, [.ref p0, .ref q1, .int 0, .int (-1), .int 0, .int 0, .int 0, .int 0, .int 0])), (q1, .inl (k2, 10, .inr (.inr (.inr (.inr f18))))), (q20, .inr (3, [.int 0, .int 0, .null, .int 0, .int 0, .int 0, .int 0, .int 0]))] H := hP
  have hD : va_D A [(h0, .inr (5, [.ref p0, .ref q1, .int 0, .int (-1), .int 0, .int 0, .int 0, .int 0, .int 0])), (q1, .inl (k2, 10, .inr (.inr (.inr (.inr f18))))), (q20, .inr (3, [.int 0, .int 0, .null, .int 0, .int 0, .int 0, .int 0, .int 0]))] := hD
  refine W.widen (k := 10) (n := 370) (Nat.le_of_ble_eq_true rfl) (Nat.le_of_ble_eq_true rfl) ?_
  refine lv_dup hx hb dX5_init_69 rfl ?_
  have hPc := hP.sub (ws' := [(q20, .inr (3, [.int 0, .int 0, .null, .int 0, .int 0, .int 0, .int 0, .int 0]))]) [2] rfl
  have hDc := hD.sub (ws' := [(q20, .inr (3, [.int 0, .int 0, .null, .int 0, .int 0, .int 0, .int 0, .int 0]))]) [2] (by decide) rfl
  have hKc := hK.sub (tys' := []) [] rfl
  have hFc := va_free (wc := [(q20, .inr (3, [.int 0, .int 0, .null, .int 0, .int 0, .int 0, .int 0, .int 0]))]) hD hS hA [2] rfl
  refine va_callv (va_runIN (As := []) (rest := [.ref q20, .int 4, .ref q1]) ⟨hx, hb, hml, hown, hts⟩ (c_X3_init l dC dI q20 H.size  ) ⟨va_cnB 0 hts (gI pq114) rfl rfl rfl (xN_X5_43 hN) (hts _ pq76) (by decide +kernel) ⟨(Nat.le_of_ble_eq_true rfl), (Nat.le_of_ble_eq_true rfl)⟩, rfl, hts _ pq113⟩ (pc_S hPc hDc hKc hN) rfl rfl hl.1 rfl (lv_room (Nat.le_of_ble_eq_true rfl)) dX5_init_70 ⟨(Nat.le_of_ble_eq_true rfl), (Nat.le_of_ble_eq_true rfl)⟩) hS (fun q _ h => hFc q h) hFc (fun u t H1 locs ht hvm hw hB hz1 hk1 hS => ?_)
  obtain ⟨q21, hP1, hK1, hD1⟩ := hB
  rw [ht] at hP1
  have hK1 := va_K.moved hvm.symm hK1
  obtain ⟨hP, hD⟩ := va_join (wr := [(h0, .inr (5, [.ref p0, .ref q1, .int 0, .int (-1), .int 0, .int 0, .int 0, .int 0, .int 0])), (q1, .inl (k2, 10, .inr (.inr (.inr (.inr f18)))))]) (w1 := [(q20, .inr (3, [.int 0, .int 0, .ref q21, .int 0, .int 0, .int 0, .int 0, .int 0]))]) hP hD [2] [0, 1] rfl rfl (by decide) (by decide) hk1 hFc hP1 hD1
  generalize H1 = H at hP hS ⊢
  have hP : va_P (dC, dI) vwCl [(h0, .inr (5, [.ref p0, .ref q1, .int 0, .int (-1), .int 0, .int 0, .int 0, .int 0, .int 0])), (q1, .inl (k2, 10, .inr (.inr (.inr (.inr f18))))), (q20, .inr (3, [.int 0, .int 0, .ref q21, .int 0, .int 0, .int 0, .int 0, .int 0]))] H := hP
  have hD : va_D A [(h0, .inr (5, [.ref p0, .ref q1, .int 0, .int (-1), .int 0, .int 0, .int 0, .int 0, .int 0])), (q1, .inl (k2, 10, .inr (.inr (.inr (.inr f18))))), (q20, .inr (3, [.int 0, .int 0, .ref q21, .int 0, .int 0, .int 0, .int 0, .int 0]))] := hD
  refine W.widen (k := 11) (n := 450) (Nat.le_of_ble_eq_true rfl) (Nat.le_of_ble_eq_true rfl) ?_
  refine va_astq hx hb hK hP hD hS 1 0 2 3 rfl rfl rfl rfl (in_d (by decide +kernel)) dX5_init_73 (fun H locs hP hD hS => ?_)
  obtain ⟨f22, hP, hD⟩ : ∃ f22 : Nat → Option Nat, va_P (dC, dI) vwCl [(h0, .inr (5, [.ref p0, .ref q1, .int 0, .int (-1), .int 0, .int 0, .int 0, .int 0, .int 0])), (q1, .inl (k2, 10, .inr (.inr (.inr (.inr f22))))), (q20, .inr (3, [.int 0, .int 0, .ref q21, .int 0, .int 0, .int 0, .int 0, .int 0]))] H ∧ va_D A [(h0, .inr (5, [.ref p0, .ref q1, .int 0, .int (-1), .int 0, .int 0, .int 0, .int 0, .int 0])), (q1, .inl (k2, 10, .inr (.inr (.inr (.inr f22))))), (q20, .inr (3, [.int 0, .int 0, .ref q21, .int 0, .int 0, .int 0, .int 0, .int 0]))] := ⟨_, hP, hD⟩
  have hP := hP.sub (ws' := [(h0, .inr (5, [.ref p0, .ref q1, .int 0, .int (-1), .int 0, .int 0, .int 0, .int 0, .int 0])), (q1, .inl (k2, 10, .inr (.inr (.inr (.inr f22)))))]) [0, 1] rfl
  have hD := hD.sub (ws' := [(h0, .inr (5, [.ref p0, .ref q1, .int 0, .int (-1), .int 0, .int 0, .int 0, .int 0, .int 0])), (q1, .inl (k2, 10, .inr (.inr (.inr (.inr f22)))))]) [0, 1] (by decide) rfl
  refine lv_iinc (v := 5) (lv' := [(2, .int 5), (0, .ref h0), (1, .ref p0)]) hx hb dX5_init_74 hl (k := 0) rfl (by decide +kernel) (by decide) rfl (fun ls hl => ?_)
  refine lv_goto (tgt := 55) hx hb dX5_init_77 (by decide) ?_
  refine lv_iload_n hx hb dX5_init_55 rfl (lv_at hl 0 rfl) ?_
  refine lv_bipush (v := 10) hx hb dX5_init_56 (by decide +kernel) ?_
  refine lv_icmp_ge (tgt := 80) hx hb dX5_init_58 (by decide) (fun c23 => absurd c23 (by decide +kernel)) (fun c23 => ?_)
  refine lv_aload_n hx hb dX5_init_61 rfl (lv_at hl 1 rfl) ?_
  refine va_get (D := (dC, dI)) (ci := 5) (v := .ref q1) (C := RX5) (T := TX5) (N := 9) hx hb hts inX5 hown hK hP 0 rfl rfl 1 (by decide) (hts _ pq275) (fun _ h9 => h9) rfl dX5_init_62 ?_
  refine lv_iload_n hx hb dX5_init_65 rfl (lv_at hl 0 rfl) ?_
  refine va_new (ci := 3) (fs := [.int 0, .int 0, .null, .int 0, .int 0, .int 0, .int 0, .int 0]) (C := RX3) (T := TX3) (N := 8) hx hb hts inX3 tyX3 tyX3_ok hown (hts _ pq272) (hts _ pq111) (hts _ pq76) hK hP hD hS hA rfl dfX3 (Nat.le_of_ble_eq_true rfl) (Nat.le_of_ble_eq_true rfl) dX5_init_66 (fun q24 H hP hD hS => ?_)
  have hP : va_P (dC, dI) vwCl [(h0, .inr (5, [.ref p0, .ref q1, .int 0, .int (-1), .int 0, .int 0, .int 0, .int 0, .int 0])), (q1, .inl (k2, 10, .inr (.inr (.inr (.inr f22))))), (q24, .inr (3, [.int 0, .int 0, .null, .int 0, .int 0, .int 0, .int 0, .int 0]))] H := hP
  have hD : va_D A [(h0, .inr (5, [.ref p0, .ref q1, .int 0, .int (-1), .int 0, .int 0, .int 0, .int 0, .int 0])), (q1, .inl (k2, 10, .inr (.inr (.inr (.inr f22))))), (q24, .inr (3, [.int 0, .int 0, .null, .int 0, .int 0, .int 0, .int 0, .int 0]))] := hD
  refine W.widen (k := 12) (n := 458) (Nat.le_of_ble_eq_true rfl) (Nat.le_of_ble_eq_true rfl) ?_
  refine lv_dup hx hb dX5_init_69 rfl ?_
  have hPc := hP.sub (ws' := [(q24, .inr (3, [.int 0, .int 0, .null, .int 0, .int 0, .int 0, .int 0, .int 0]))]) [2] rfl
  have hDc := hD.sub (ws' := [(q24, .inr (3, [.int 0, .int 0, .null, .int 0, .int 0, .int 0, .int 0, .int 0]))]) [2] (by decide) rfl
  have hKc := hK.sub (tys' := []) [] rfl
  have hFc := va_free (wc := [(q24, .inr (3, [.int 0, .int 0, .null, .int 0, .int 0, .int 0, .int 0, .int 0]))]) hD hS hA [2] rfl
  refine va_callv (va_runIN (As := []) (rest := [.ref q24, .int 5, .ref q1]) ⟨hx, hb, hml, hown, hts⟩ (c_X3_init l dC dI q24 H.size  ) ⟨va_cnB 0 hts (gI pq114) rfl rfl rfl (xN_X5_43 hN) (hts _ pq76) (by decide +kernel) ⟨(Nat.le_of_ble_eq_true rfl), (Nat.le_of_ble_eq_true rfl)⟩, rfl, hts _ pq113⟩ (pc_S hPc hDc hKc hN) rfl rfl hl.1 rfl (lv_room (Nat.le_of_ble_eq_true rfl)) dX5_init_70 ⟨(Nat.le_of_ble_eq_true rfl), (Nat.le_of_ble_eq_true rfl)⟩) hS (fun q _ h => hFc q h) hFc (fun u t H1 locs ht hvm hw hB hz1 hk1 hS => ?_)
  obtain ⟨q25, hP1, hK1, hD1⟩ := hB
  rw [ht] at hP1
  have hK1 := va_K.moved hvm.symm hK1
  obtain ⟨hP, hD⟩ := va_join (wr := [(h0, .inr (5, [.ref p0, .ref q1, .int 0, .int (-1), .int 0, .int 0, .int 0, .int 0, .int 0])), (q1, .inl (k2, 10, .inr (.inr (.inr (.inr f22)))))]) (w1 := [(q24, .inr (3, [.int 0, .int 0, .ref q25, .int 0, .int 0, .int 0, .int 0, .int 0]))]) hP hD [2] [0, 1] rfl rfl (by decide) (by decide) hk1 hFc hP1 hD1
  generalize H1 = H at hP hS ⊢
  have hP : va_P (dC, dI) vwCl [(h0, .inr (5, [.ref p0, .ref q1, .int 0, .int (-1), .int 0, .int 0, .int 0, .int 0, .int 0])), (q1, .inl (k2, 10, .inr (.inr (.inr (.inr f22))))), (q24, .inr (3, [.int 0, .int 0, .ref q25, .int 0, .int 0, .int 0, .int 0, .int 0]))] H := hP
  have hD : va_D A [(h0, .inr (5, [.ref p0, .ref q1, .int 0, .int (-1), .int 0, .int 0, .int 0, .int 0, .int 0])), (q1, .inl (k2, 10, .inr (.inr (.inr (.inr f22))))), (q24, .inr (3, [.int 0, .int 0, .ref q25, .int 0, .int 0, .int 0, .int 0, .int 0]))] := hD
  refine W.widen (k := 13) (n := 538) (Nat.le_of_ble_eq_true rfl) (Nat.le_of_ble_eq_true rfl) ?_
  refine va_astq hx hb hK hP hD hS 1 0 2 3 rfl rfl rfl rfl (in_d (by decide +kernel)) dX5_init_73 (fun H locs hP hD hS => ?_)
  obtain ⟨f26, hP, hD⟩ : ∃ f26 : Nat → Option Nat, va_P (dC, dI) vwCl [(h0, .inr (5, [.ref p0, .ref q1, .int 0, .int (-1), .int 0, .int 0, .int 0, .int 0, .int 0])), (q1, .inl (k2, 10, .inr (.inr (.inr (.inr f26))))), (q24, .inr (3, [.int 0, .int 0, .ref q25, .int 0, .int 0, .int 0, .int 0, .int 0]))] H ∧ va_D A [(h0, .inr (5, [.ref p0, .ref q1, .int 0, .int (-1), .int 0, .int 0, .int 0, .int 0, .int 0])), (q1, .inl (k2, 10, .inr (.inr (.inr (.inr f26))))), (q24, .inr (3, [.int 0, .int 0, .ref q25, .int 0, .int 0, .int 0, .int 0, .int 0]))] := ⟨_, hP, hD⟩
  have hP := hP.sub (ws' := [(h0, .inr (5, [.ref p0, .ref q1, .int 0, .int (-1), .int 0, .int 0, .int 0, .int 0, .int 0])), (q1, .inl (k2, 10, .inr (.inr (.inr (.inr f26)))))]) [0, 1] rfl
  have hD := hD.sub (ws' := [(h0, .inr (5, [.ref p0, .ref q1, .int 0, .int (-1), .int 0, .int 0, .int 0, .int 0, .int 0])), (q1, .inl (k2, 10, .inr (.inr (.inr (.inr f26)))))]) [0, 1] (by decide) rfl
  refine lv_iinc (v := 6) (lv' := [(2, .int 6), (0, .ref h0), (1, .ref p0)]) hx hb dX5_init_74 hl (k := 0) rfl (by decide +kernel) (by decide) rfl (fun ls hl => ?_)
  refine lv_goto (tgt := 55) hx hb dX5_init_77 (by decide) ?_
  refine lv_iload_n hx hb dX5_init_55 rfl (lv_at hl 0 rfl) ?_
  refine lv_bipush (v := 10) hx hb dX5_init_56 (by decide +kernel) ?_
  refine lv_icmp_ge (tgt := 80) hx hb dX5_init_58 (by decide) (fun c27 => absurd c27 (by decide +kernel)) (fun c27 => ?_)
  refine lv_aload_n hx hb dX5_init_61 rfl (lv_at hl 1 rfl) ?_
  refine va_get (D := (dC, dI)) (ci := 5) (v := .ref q1) (C := RX5) (T := TX5) (N := 9) hx hb hts inX5 hown hK hP 0 rfl rfl 1 (by decide) (hts _ pq275) (fun _ h9 => h9) rfl dX5_init_62 ?_
  refine lv_iload_n hx hb dX5_init_65 rfl (lv_at hl 0 rfl) ?_
  refine va_new (ci := 3) (fs := [.int 0, .int 0, .null, .int 0, .int 0, .int 0, .int 0, .int 0]) (C := RX3) (T := TX3) (N := 8) hx hb hts inX3 tyX3 tyX3_ok hown (hts _ pq272) (hts _ pq111) (hts _ pq76) hK hP hD hS hA rfl dfX3 (Nat.le_of_ble_eq_true rfl) (Nat.le_of_ble_eq_true rfl) dX5_init_66 (fun q28 H hP hD hS => ?_)
  have hP : va_P (dC, dI) vwCl [(h0, .inr (5, [.ref p0, .ref q1, .int 0, .int (-1), .int 0, .int 0, .int 0, .int 0, .int 0])), (q1, .inl (k2, 10, .inr (.inr (.inr (.inr f26))))), (q28, .inr (3, [.int 0, .int 0, .null, .int 0, .int 0, .int 0, .int 0, .int 0]))] H := hP
  have hD : va_D A [(h0, .inr (5, [.ref p0, .ref q1, .int 0, .int (-1), .int 0, .int 0, .int 0, .int 0, .int 0])), (q1, .inl (k2, 10, .inr (.inr (.inr (.inr f26))))), (q28, .inr (3, [.int 0, .int 0, .null, .int 0, .int 0, .int 0, .int 0, .int 0]))] := hD
  refine W.widen (k := 14) (n := 546) (Nat.le_of_ble_eq_true rfl) (Nat.le_of_ble_eq_true rfl) ?_
  refine lv_dup hx hb dX5_init_69 rfl ?_
  have hPc := hP.sub (ws' := [(q28, .inr (3, [.int 0, .int 0, .null, .int 0, .int 0, .int 0, .int 0, .int 0]))]) [2] rfl
  have hDc := hD.sub (ws' := [(q28, .inr (3, [.int 0, .int 0, .null, .int 0, .int 0, .int 0, .int 0, .int 0]))]) [2] (by decide) rfl
  have hKc := hK.sub (tys' := []) [] rfl
  have hFc := va_free (wc := [(q28, .inr (3, [.int 0, .int 0, .null, .int 0, .int 0, .int 0, .int 0, .int 0]))]) hD hS hA [2] rfl
  refine va_callv (va_runIN (As := []) (rest := [.ref q28, .int 6, .ref q1]) ⟨hx, hb, hml, hown, hts⟩ (c_X3_init l dC dI q28 H.size  ) ⟨va_cnB 0 hts (gI pq114) rfl rfl rfl (xN_X5_43 hN) (hts _ pq76) (by decide +kernel) ⟨(Nat.le_of_ble_eq_true rfl), (Nat.le_of_ble_eq_true rfl)⟩, rfl, hts _ pq113⟩ (pc_S hPc hDc hKc hN) rfl rfl hl.1 rfl (lv_room (Nat.le_of_ble_eq_true rfl)) dX5_init_70 ⟨(Nat.le_of_ble_eq_true rfl), (Nat.le_of_ble_eq_true rfl)⟩) hS (fun q _ h => hFc q h) hFc (fun u t H1 locs ht hvm hw hB hz1 hk1 hS => ?_)
  obtain ⟨q29, hP1, hK1, hD1⟩ := hB
  rw [ht] at hP1
  have hK1 := va_K.moved hvm.symm hK1
  obtain ⟨hP, hD⟩ := va_join (wr := [(h0, .inr (5, [.ref p0, .ref q1, .int 0, .int (-1), .int 0, .int 0, .int 0, .int 0, .int 0])), (q1, .inl (k2, 10, .inr (.inr (.inr (.inr f26)))))]) (w1 := [(q28, .inr (3, [.int 0, .int 0, .ref q29, .int 0, .int 0, .int 0, .int 0, .int 0]))]) hP hD [2] [0, 1] rfl rfl (by decide) (by decide) hk1 hFc hP1 hD1
  generalize H1 = H at hP hS ⊢
  have hP : va_P (dC, dI) vwCl [(h0, .inr (5, [.ref p0, .ref q1, .int 0, .int (-1), .int 0, .int 0, .int 0, .int 0, .int 0])), (q1, .inl (k2, 10, .inr (.inr (.inr (.inr f26))))), (q28, .inr (3, [.int 0, .int 0, .ref q29, .int 0, .int 0, .int 0, .int 0, .int 0]))] H := hP
  have hD : va_D A [(h0, .inr (5, [.ref p0, .ref q1, .int 0, .int (-1), .int 0, .int 0, .int 0, .int 0, .int 0])), (q1, .inl (k2, 10, .inr (.inr (.inr (.inr f26))))), (q28, .inr (3, [.int 0, .int 0, .ref q29, .int 0, .int 0, .int 0, .int 0, .int 0]))] := hD
  refine W.widen (k := 15) (n := 626) (Nat.le_of_ble_eq_true rfl) (Nat.le_of_ble_eq_true rfl) ?_
  refine va_astq hx hb hK hP hD hS 1 0 2 3 rfl rfl rfl rfl (in_d (by decide +kernel)) dX5_init_73 (fun H locs hP hD hS => ?_)
  obtain ⟨f30, hP, hD⟩ : ∃ f30 : Nat → Option Nat, va_P (dC, dI) vwCl [(h0, .inr (5, [.ref p0, .ref q1, .int 0, .int (-1), .int 0, .int 0, .int 0, .int 0, .int 0])), (q1, .inl (k2, 10, .inr (.inr (.inr (.inr f30))))), (q28, .inr (3, [.int 0, .int 0, .ref q29, .int 0, .int 0, .int 0, .int 0, .int 0]))] H ∧ va_D A [(h0, .inr (5, [.ref p0, .ref q1, .int 0, .int (-1), .int 0, .int 0, .int 0, .int 0, .int 0])), (q1, .inl (k2, 10, .inr (.inr (.inr (.inr f30))))), (q28, .inr (3, [.int 0, .int 0, .ref q29, .int 0, .int 0, .int 0, .int 0, .int 0]))] := ⟨_, hP, hD⟩
  have hP := hP.sub (ws' := [(h0, .inr (5, [.ref p0, .ref q1, .int 0, .int (-1), .int 0, .int 0, .int 0, .int 0, .int 0])), (q1, .inl (k2, 10, .inr (.inr (.inr (.inr f30)))))]) [0, 1] rfl
  have hD := hD.sub (ws' := [(h0, .inr (5, [.ref p0, .ref q1, .int 0, .int (-1), .int 0, .int 0, .int 0, .int 0, .int 0])), (q1, .inl (k2, 10, .inr (.inr (.inr (.inr f30)))))]) [0, 1] (by decide) rfl
  refine lv_iinc (v := 7) (lv' := [(2, .int 7), (0, .ref h0), (1, .ref p0)]) hx hb dX5_init_74 hl (k := 0) rfl (by decide +kernel) (by decide) rfl (fun ls hl => ?_)
  refine lv_goto (tgt := 55) hx hb dX5_init_77 (by decide) ?_
  refine lv_iload_n hx hb dX5_init_55 rfl (lv_at hl 0 rfl) ?_
  refine lv_bipush (v := 10) hx hb dX5_init_56 (by decide +kernel) ?_
  refine lv_icmp_ge (tgt := 80) hx hb dX5_init_58 (by decide) (fun c31 => absurd c31 (by decide +kernel)) (fun c31 => ?_)
  refine lv_aload_n hx hb dX5_init_61 rfl (lv_at hl 1 rfl) ?_
  refine va_get (D := (dC, dI)) (ci := 5) (v := .ref q1) (C := RX5) (T := TX5) (N := 9) hx hb hts inX5 hown hK hP 0 rfl rfl 1 (by decide) (hts _ pq275) (fun _ h9 => h9) rfl dX5_init_62 ?_
  refine lv_iload_n hx hb dX5_init_65 rfl (lv_at hl 0 rfl) ?_
  refine va_new (ci := 3) (fs := [.int 0, .int 0, .null, .int 0, .int 0, .int 0, .int 0, .int 0]) (C := RX3) (T := TX3) (N := 8) hx hb hts inX3 tyX3 tyX3_ok hown (hts _ pq272) (hts _ pq111) (hts _ pq76) hK hP hD hS hA rfl dfX3 (Nat.le_of_ble_eq_true rfl) (Nat.le_of_ble_eq_true rfl) dX5_init_66 (fun q32 H hP hD hS => ?_)
  have hP : va_P (dC, dI) vwCl [(h0, .inr (5, [.ref p0, .ref q1, .int 0, .int (-1), .int 0, .int 0, .int 0, .int 0, .int 0])), (q1, .inl (k2, 10, .inr (.inr (.inr (.inr f30))))), (q32, .inr (3, [.int 0, .int 0, .null, .int 0, .int 0, .int 0, .int 0, .int 0]))] H := hP
  have hD : va_D A [(h0, .inr (5, [.ref p0, .ref q1, .int 0, .int (-1), .int 0, .int 0, .int 0, .int 0, .int 0])), (q1, .inl (k2, 10, .inr (.inr (.inr (.inr f30))))), (q32, .inr (3, [.int 0, .int 0, .null, .int 0, .int 0, .int 0, .int 0, .int 0]))] := hD
  refine W.widen (k := 16) (n := 634) (Nat.le_of_ble_eq_true rfl) (Nat.le_of_ble_eq_true rfl) ?_
  refine lv_dup hx hb dX5_init_69 rfl ?_
  have hPc := hP.sub (ws' := [(q32, .inr (3, [.int 0, .int 0, .null, .int 0, .int 0, .int 0, .int 0, .int 0]))]) [2] rfl
  have hDc := hD.sub (ws' := [(q32, .inr (3, [.int 0, .int 0, .null, .int 0, .int 0, .int 0, .int 0, .int 0]))]) [2] (by decide) rfl
  have hKc := hK.sub (tys' := []) [] rfl
  have hFc := va_free (wc := [(q32, .inr (3, [.int 0, .int 0, .null, .int 0, .int 0, .int 0, .int 0, .int 0]))]) hD hS hA [2] rfl
  refine va_callv (va_runIN (As := []) (rest := [.ref q32, .int 7, .ref q1]) ⟨hx, hb, hml, hown, hts⟩ (c_X3_init l dC dI q32 H.size  ) ⟨va_cnB 0 hts (gI pq114) rfl rfl rfl (xN_X5_43 hN) (hts _ pq76) (by decide +kernel) ⟨(Nat.le_of_ble_eq_true rfl), (Nat.le_of_ble_eq_true rfl)⟩, rfl, hts _ pq113⟩ (pc_S hPc hDc hKc hN) rfl rfl hl.1 rfl (lv_room (Nat.le_of_ble_eq_true rfl)) dX5_init_70 ⟨(Nat.le_of_ble_eq_true rfl), (Nat.le_of_ble_eq_true rfl)⟩) hS (fun q _ h => hFc q h) hFc (fun u t H1 locs ht hvm hw hB hz1 hk1 hS => ?_)
  obtain ⟨q33, hP1, hK1, hD1⟩ := hB
  rw [ht] at hP1
  have hK1 := va_K.moved hvm.symm hK1
  obtain ⟨hP, hD⟩ := va_join (wr := [(h0, .inr (5, [.ref p0, .ref q1, .int 0, .int (-1), .int 0, .int 0, .int 0, .int 0, .int 0])), (q1, .inl (k2, 10, .inr (.inr (.inr (.inr f30)))))]) (w1 := [(q32, .inr (3, [.int 0, .int 0, .ref q33, .int 0, .int 0, .int 0, .int 0, .int 0]))]) hP hD [2] [0, 1] rfl rfl (by decide) (by decide) hk1 hFc hP1 hD1
  generalize H1 = H at hP hS ⊢
  have hP : va_P (dC, dI) vwCl [(h0, .inr (5, [.ref p0, .ref q1, .int 0, .int (-1), .int 0, .int 0, .int 0, .int 0, .int 0])), (q1, .inl (k2, 10, .inr (.inr (.inr (.inr f30))))), (q32, .inr (3, [.int 0, .int 0, .ref q33, .int 0, .int 0, .int 0, .int 0, .int 0]))] H := hP
  have hD : va_D A [(h0, .inr (5, [.ref p0, .ref q1, .int 0, .int (-1), .int 0, .int 0, .int 0, .int 0, .int 0])), (q1, .inl (k2, 10, .inr (.inr (.inr (.inr f30))))), (q32, .inr (3, [.int 0, .int 0, .ref q33, .int 0, .int 0, .int 0, .int 0, .int 0]))] := hD
  refine W.widen (k := 17) (n := 714) (Nat.le_of_ble_eq_true rfl) (Nat.le_of_ble_eq_true rfl) ?_
  refine va_astq hx hb hK hP hD hS 1 0 2 3 rfl rfl rfl rfl (in_d (by decide +kernel)) dX5_init_73 (fun H locs hP hD hS => ?_)
  obtain ⟨f34, hP, hD⟩ : ∃ f34 : Nat → Option Nat, va_P (dC, dI) vwCl [(h0, .inr (5, [.ref p0, .ref q1, .int 0, .int (-1), .int 0, .int 0, .int 0, .int 0, .int 0])), (q1, .inl (k2, 10, .inr (.inr (.inr (.inr f34))))), (q32, .inr (3, [.int 0, .int 0, .ref q33, .int 0, .int 0, .int 0, .int 0, .int 0]))] H ∧ va_D A [(h0, .inr (5, [.ref p0, .ref q1, .int 0, .int (-1), .int 0, .int 0, .int 0, .int 0, .int 0])), (q1, .inl (k2, 10, .inr (.inr (.inr (.inr f34))))), (q32, .inr (3, [.int 0, .int 0, .ref q33, .int 0, .int 0, .int 0, .int 0, .int 0]))] := ⟨_, hP, hD⟩
  have hP := hP.sub (ws' := [(h0, .inr (5, [.ref p0, .ref q1, .int 0, .int (-1), .int 0, .int 0, .int 0, .int 0, .int 0])), (q1, .inl (k2, 10, .inr (.inr (.inr (.inr f34)))))]) [0, 1] rfl
  have hD := hD.sub (ws' := [(h0, .inr (5, [.ref p0, .ref q1, .int 0, .int (-1), .int 0, .int 0, .int 0, .int 0, .int 0])), (q1, .inl (k2, 10, .inr (.inr (.inr (.inr f34)))))]) [0, 1] (by decide) rfl
  refine lv_iinc (v := 8) (lv' := [(2, .int 8), (0, .ref h0), (1, .ref p0)]) hx hb dX5_init_74 hl (k := 0) rfl (by decide +kernel) (by decide) rfl (fun ls hl => ?_)
  refine lv_goto (tgt := 55) hx hb dX5_init_77 (by decide) ?_
  refine lv_iload_n hx hb dX5_init_55 rfl (lv_at hl 0 rfl) ?_
  refine lv_bipush (v := 10) hx hb dX5_init_56 (by decide +kernel) ?_
  refine lv_icmp_ge (tgt := 80) hx hb dX5_init_58 (by decide) (fun c35 => absurd c35 (by decide +kernel)) (fun c35 => ?_)
  refine lv_aload_n hx hb dX5_init_61 rfl (lv_at hl 1 rfl) ?_
  refine va_get (D := (dC, dI)) (ci := 5) (v := .ref q1) (C := RX5) (T := TX5) (N := 9) hx hb hts inX5 hown hK hP 0 rfl rfl 1 (by decide) (hts _ pq275) (fun _ h9 => h9) rfl dX5_init_62 ?_
  refine lv_iload_n hx hb dX5_init_65 rfl (lv_at hl 0 rfl) ?_
  refine va_new (ci := 3) (fs := [.int 0, .int 0, .null, .int 0, .int 0, .int 0, .int 0, .int 0]) (C := RX3) (T := TX3) (N := 8) hx hb hts inX3 tyX3 tyX3_ok hown (hts _ pq272) (hts _ pq111) (hts _ pq76) hK hP hD hS hA rfl dfX3 (Nat.le_of_ble_eq_true rfl) (Nat.le_of_ble_eq_true rfl) dX5_init_66 (fun q36 H hP hD hS => ?_)
  have hP : va_P (dC, dI) vwCl [(h0, .inr (5, [.ref p0, .ref q1, .int 0, .int (-1), .int 0, .int 0, .int 0, .int 0, .int 0])), (q1, .inl (k2, 10, .inr (.inr (.inr (.inr f34))))), (q36, .inr (3, [.int 0, .int 0, .null, .int 0, .int 0, .int 0, .int 0, .int 0]))] H := hP
  have hD : va_D A [(h0, .inr (5, [.ref p0, .ref q1, .int 0, .int (-1), .int 0, .int 0, .int 0, .int 0, .int 0])), (q1, .inl (k2, 10, .inr (.inr (.inr (.inr f34))))), (q36, .inr (3, [.int 0, .int 0, .null, .int 0, .int 0, .int 0, .int 0, .int 0]))] := hD
  refine W.widen (k := 18) (n := 722) (Nat.le_of_ble_eq_true rfl) (Nat.le_of_ble_eq_true rfl) ?_
  refine lv_dup hx hb dX5_init_69 rfl ?_
  have hPc := hP.sub (ws' := [(q36, .inr (3, [.int 0, .int 0, .null, .int 0, .int 0, .int 0, .int 0, .int 0]))]) [2] rfl
  have hDc := hD.sub (ws' := [(q36, .inr (3, [.int 0, .int 0, .null, .int 0, .int 0, .int 0, .int 0, .int 0]))]) [2] (by decide) rfl
  have hKc := hK.sub (tys' := []) [] rfl
  have hFc := va_free (wc := [(q36, .inr (3, [.int 0, .int 0, .null, .int 0, .int 0, .int 0, .int 0, .int 0]))]) hD hS hA [2] rfl
  refine va_callv (va_runIN (As := []) (rest := [.ref q36, .int 8, .ref q1]) ⟨hx, hb, hml, hown, hts⟩ (c_X3_init l dC dI q36 H.size  ) ⟨va_cnB 0 hts (gI pq114) rfl rfl rfl (xN_X5_43 hN) (hts _ pq76) (by decide +kernel) ⟨(Nat.le_of_ble_eq_true rfl), (Nat.le_of_ble_eq_true rfl)⟩, rfl, hts _ pq113⟩ (pc_S hPc hDc hKc hN) rfl rfl hl.1 rfl (lv_room (Nat.le_of_ble_eq_true rfl)) dX5_init_70 ⟨(Nat.le_of_ble_eq_true rfl), (Nat.le_of_ble_eq_true rfl)⟩) hS (fun q _ h => hFc q h) hFc (fun u t H1 locs ht hvm hw hB hz1 hk1 hS => ?_)
  obtain ⟨q37, hP1, hK1, hD1⟩ := hB
  rw [ht] at hP1
  have hK1 := va_K.moved hvm.symm hK1
  obtain ⟨hP, hD⟩ := va_join (wr := [(h0, .inr (5, [.ref p0, .ref q1, .int 0, .int (-1), .int 0, .int 0, .int 0, .int 0, .int 0])), (q1, .inl (k2, 10, .inr (.inr (.inr (.inr f34)))))]) (w1 := [(q36, .inr (3, [.int 0, .int 0, .ref q37, .int 0, .int 0, .int 0, .int 0, .int 0]))]) hP hD [2] [0, 1] rfl rfl (by decide) (by decide) hk1 hFc hP1 hD1
  generalize H1 = H at hP hS ⊢
  have hP : va_P (dC, dI) vwCl [(h0, .inr (5, [.ref p0, .ref q1, .int 0, .int (-1), .int 0, .int 0, .int 0, .int 0, .int 0])), (q1, .inl (k2, 10, .inr (.inr (.inr (.inr f34))))), (q36, .inr (3, [.int 0, .int 0, .ref q37, .int 0, .int 0, .int 0, .int 0, .int 0]))] H := hP
  have hD : va_D A [(h0, .inr (5, [.ref p0, .ref q1, .int 0, .int (-1), .int 0, .int 0, .int 0, .int 0, .int 0])), (q1, .inl (k2, 10, .inr (.inr (.inr (.inr f34))))), (q36, .inr (3, [.int 0, .int 0, .ref q37, .int 0, .int 0, .int 0, .int 0, .int 0]))] := hD
  refine W.widen (k := 19) (n := 802) (Nat.le_of_ble_eq_true rfl) (Nat.le_of_ble_eq_true rfl) ?_
  refine va_astq hx hb hK hP hD hS 1 0 2 3 rfl rfl rfl rfl (in_d (by decide +kernel)) dX5_init_73 (fun H locs hP hD hS => ?_)
  obtain ⟨f38, hP, hD⟩ : ∃ f38 : Nat → Option Nat, va_P (dC, dI) vwCl [(h0, .inr (5, [.ref p0, .ref q1, .int 0, .int (-1), .int 0, .int 0, .int 0, .int 0, .int 0])), (q1, .inl (k2, 10, .inr (.inr (.inr (.inr f38))))), (q36, .inr (3, [.int 0, .int 0, .ref q37, .int 0, .int 0, .int 0, .int 0, .int 0]))] H ∧ va_D A [(h0, .inr (5, [.ref p0, .ref q1, .int 0, .int (-1), .int 0, .int 0, .int 0, .int 0, .int 0])), (q1, .inl (k2, 10, .inr (.inr (.inr (.inr f38))))), (q36, .inr (3, [.int 0, .int 0, .ref q37, .int 0, .int 0, .int 0, .int 0, .int 0]))] := ⟨_, hP, hD⟩
  have hP := hP.sub (ws' := [(h0, .inr (5, [.ref p0, .ref q1, .int 0, .int (-1), .int 0, .int 0, .int 0, .int 0, .int 0])), (q1, .inl (k2, 10, .inr (.inr (.inr (.inr f38)))))]) [0, 1] rfl
  have hD := hD.sub (ws' := [(h0, .inr (5, [.ref p0, .ref q1, .int 0, .int (-1), .int 0, .int 0, .int 0, .int 0, .int 0])), (q1, .inl (k2, 10, .inr (.inr (.inr (.inr f38)))))]) [0, 1] (by decide) rfl
  refine lv_iinc (v := 9) (lv' := [(2, .int 9), (0, .ref h0), (1, .ref p0)]) hx hb dX5_init_74 hl (k := 0) rfl (by decide +kernel) (by decide) rfl (fun ls hl => ?_)
  refine lv_goto (tgt := 55) hx hb dX5_init_77 (by decide) ?_
  refine lv_iload_n hx hb dX5_init_55 rfl (lv_at hl 0 rfl) ?_
  refine lv_bipush (v := 10) hx hb dX5_init_56 (by decide +kernel) ?_
  refine lv_icmp_ge (tgt := 80) hx hb dX5_init_58 (by decide) (fun c39 => absurd c39 (by decide +kernel)) (fun c39 => ?_)
  refine lv_aload_n hx hb dX5_init_61 rfl (lv_at hl 1 rfl) ?_
  refine va_get (D := (dC, dI)) (ci := 5) (v := .ref q1) (C := RX5) (T := TX5) (N := 9) hx hb hts inX5 hown hK hP 0 rfl rfl 1 (by decide) (hts _ pq275) (fun _ h9 => h9) rfl dX5_init_62 ?_
  refine lv_iload_n hx hb dX5_init_65 rfl (lv_at hl 0 rfl) ?_
  refine va_new (ci := 3) (fs := [.int 0, .int 0, .null, .int 0, .int 0, .int 0, .int 0, .int 0]) (C := RX3) (T := TX3) (N := 8) hx hb hts inX3 tyX3 tyX3_ok hown (hts _ pq272) (hts _ pq111) (hts _ pq76) hK hP hD hS hA rfl dfX3 (Nat.le_of_ble_eq_true rfl) (Nat.le_of_ble_eq_true rfl) dX5_init_66 (fun q40 H hP hD hS => ?_)
  have hP : va_P (dC, dI) vwCl [(h0, .inr (5, [.ref p0, .ref q1, .int 0, .int (-1), .int 0, .int 0, .int 0, .int 0, .int 0])), (q1, .inl (k2, 10, .inr (.inr (.inr (.inr f38))))), (q40, .inr (3, [.int 0, .int 0, .null, .int 0, .int 0, .int 0, .int 0, .int 0]))] H := hP
  have hD : va_D A [(h0, .inr (5, [.ref p0, .ref q1, .int 0, .int (-1), .int 0, .int 0, .int 0, .int 0, .int 0])), (q1, .inl (k2, 10, .inr (.inr (.inr (.inr f38))))), (q40, .inr (3, [.int 0, .int 0, .null, .int 0, .int 0, .int 0, .int 0, .int 0]))] := hD
  refine W.widen (k := 20) (n := 810) (Nat.le_of_ble_eq_true rfl) (Nat.le_of_ble_eq_true rfl) ?_
  refine lv_dup hx hb dX5_init_69 rfl ?_
  have hPc := hP.sub (ws' := [(q40, .inr (3, [.int 0, .int 0, .null, .int 0, .int 0, .int 0, .int 0, .int 0]))]) [2] rfl
  have hDc := hD.sub (ws' := [(q40, .inr (3, [.int 0, .int 0, .null, .int 0, .int 0, .int 0, .int 0, .int 0]))]) [2] (by decide) rfl
  have hKc := hK.sub (tys' := []) [] rfl
  have hFc := va_free (wc := [(q40, .inr (3, [.int 0, .int 0, .null, .int 0, .int 0, .int 0, .int 0, .int 0]))]) hD hS hA [2] rfl
  refine va_callv (va_runIN (As := []) (rest := [.ref q40, .int 9, .ref q1]) ⟨hx, hb, hml, hown, hts⟩ (c_X3_init l dC dI q40 H.size  ) ⟨va_cnB 0 hts (gI pq114) rfl rfl rfl (xN_X5_43 hN) (hts _ pq76) (by decide +kernel) ⟨(Nat.le_of_ble_eq_true rfl), (Nat.le_of_ble_eq_true rfl)⟩, rfl, hts _ pq113⟩ (pc_S hPc hDc hKc hN) rfl rfl hl.1 rfl (lv_room (Nat.le_of_ble_eq_true rfl)) dX5_init_70 ⟨(Nat.le_of_ble_eq_true rfl), (Nat.le_of_ble_eq_true rfl)⟩) hS (fun q _ h => hFc q h) hFc (fun u t H1 locs ht hvm hw hB hz1 hk1 hS => ?_)
  obtain ⟨q41, hP1, hK1, hD1⟩ := hB
  rw [ht] at hP1
  have hK1 := va_K.moved hvm.symm hK1
  obtain ⟨hP, hD⟩ := va_join (wr := [(h0, .inr (5, [.ref p0, .ref q1, .int 0, .int (-1), .int 0, .int 0, .int 0, .int 0, .int 0])), (q1, .inl (k2, 10, .inr (.inr (.inr (.inr f38)))))]) (w1 := [(q40, .inr (3, [.int 0, .int 0, .ref q41, .int 0, .int 0, .int 0, .int 0, .int 0]))]) hP hD [2] [0, 1] rfl rfl (by decide) (by decide) hk1 hFc hP1 hD1
  generalize H1 = H at hP hS ⊢
  have hP : va_P (dC, dI) vwCl [(h0, .inr (5, [.ref p0, .ref q1, .int 0, .int (-1), .int 0, .int 0, .int 0, .int 0, .int 0])), (q1, .inl (k2, 10, .inr (.inr (.inr (.inr f38))))), (q40, .inr (3, [.int 0, .int 0, .ref q41, .int 0, .int 0, .int 0, .int 0, .int 0]))] H := hP
  have hD : va_D A [(h0, .inr (5, [.ref p0, .ref q1, .int 0, .int (-1), .int 0, .int 0, .int 0, .int 0, .int 0])), (q1, .inl (k2, 10, .inr (.inr (.inr (.inr f38))))), (q40, .inr (3, [.int 0, .int 0, .ref q41, .int 0, .int 0, .int 0, .int 0, .int 0]))] := hD
  refine W.widen (k := 21) (n := 890) (Nat.le_of_ble_eq_true rfl) (Nat.le_of_ble_eq_true rfl) ?_
  refine va_astq hx hb hK hP hD hS 1 0 2 3 rfl rfl rfl rfl (in_d (by decide +kernel)) dX5_init_73 (fun H locs hP hD hS => ?_)
  obtain ⟨f42, hP, hD⟩ : ∃ f42 : Nat → Option Nat, va_P (dC, dI) vwCl [(h0, .inr (5, [.ref p0, .ref q1, .int 0, .int (-1), .int 0, .int 0, .int 0, .int 0, .int 0])), (q1, .inl (k2, 10, .inr (.inr (.inr (.inr f42))))), (q40, .inr (3, [.int 0, .int 0, .ref q41, .int 0, .int 0, .int 0, .int 0, .int 0]))] H ∧ va_D A [(h0, .inr (5, [.ref p0, .ref q1, .int 0, .int (-1), .int 0, .int 0, .int 0, .int 0, .int 0])), (q1, .inl (k2, 10, .inr (.inr (.inr (.inr f42))))), (q40, .inr (3, [.int 0, .int 0, .ref q41, .int 0, .int 0, .int 0, .int 0, .int 0]))] := ⟨_, hP, hD⟩
  have hP := hP.sub (ws' := [(h0, .inr (5, [.ref p0, .ref q1, .int 0, .int (-1), .int 0, .int 0, .int 0, .int 0, .int 0])), (q1, .inl (k2, 10, .inr (.inr (.inr (.inr f42)))))]) [0, 1] rfl
  have hD := hD.sub (ws' := [(h0, .inr (5, [.ref p0, .ref q1, .int 0, .int (-1), .int 0, .int 0, .int 0, .int 0, .int 0])), (q1, .inl (k2, 10, .inr (.inr (.inr (.inr f42)))))]) [0, 1] (by decide) rfl
  refine lv_iinc (v := 10) (lv' := [(2, .int 10), (0, .ref h0), (1, .ref p0)]) hx hb dX5_init_74 hl (k := 0) rfl (by decide +kernel) (by decide) rfl (fun ls hl => ?_)
  refine lv_goto (tgt := 55) hx hb dX5_init_77 (by decide) ?_
  refine lv_iload_n hx hb dX5_init_55 rfl (lv_at hl 0 rfl) ?_
  refine lv_bipush (v := 10) hx hb dX5_init_56 (by decide +kernel) ?_
  refine lv_icmp_ge (tgt := 80) hx hb dX5_init_58 (by decide) (fun c43 => ?_) (fun c43 => absurd (by decide +kernel) c43)
  have hP9 := hP.sub (ws' := [(h0, .inr (5, [.ref p0, .ref q1, .int 0, .int (-1), .int 0, .int 0, .int 0, .int 0, .int 0]))]) [0] rfl
  have hD9 := hD.sub (ws' := [(h0, .inr (5, [.ref p0, .ref q1, .int 0, .int (-1), .int 0, .int 0, .int 0, .int 0, .int 0]))]) [0] (by decide) rfl
  have hK9 := hK.sub (tys' := []) [] rfl
  exact W.vret hx hb hr (fun t ht hW => ⟨⟨(), rfl, trivial, ⟨q1, by rw [ht]; exact hP9, va_K.moved hW.alike hK9, hD9⟩⟩, hS.F ht⟩) hS.2.2 dX5_init_80

set_option maxHeartbeats 4000000 in
set_option maxRecDepth 100000 in
theorem c_X2_init (l : Launch) (dC : Nat → ClassId) (dI : Nat → Nat → Nat) (h0 : Nat) (sz : Nat) : Met l yX2_init (.code yX2_init cX2_init 1 none :: pw) ({ frames := 2, cells := 3, slots := 4088, locals := 32 }) (pc (dC, dI) [.ref h0] sz [(h0, .inr (2, [.null, .null, .int 0, .int 0, .int 0, .int 0, .int 0, .int 0]))] []) (va_Qv (fun (_ : Unit) => True) (fun _ _ => True) (va_A [(h0, .inr (2, [.null, .null, .int 0, .int 0, .int 0, .int 0, .int 0, .int 0]))] sz)) 3 4088 (va_A [(h0, .inr (2, [.null, .null, .int 0, .int 0, .int 0, .int 0, .int 0, .int 0]))] sz) := by
  refine Met.ofW (cc := cX2_init) (maxL := 1) (ret := none) (by decide +kernel) rfl ?_
  intro p e s m args below meth c s₁ B hml hv
  obtain ⟨rfl, hsz, hP, hK, hD0, hN⟩ := hv
  have hx := B.exec
  have hb := B.bytes
  have hr := B.returns
  have hts := fun w (h : w ∈ pw) => atoms_spec (ws := Cond.code yX2_init cX2_init 1 none :: pw) B.pre w (List.mem_cons_of_mem _ h)
  have hown : s.vm.findClass RX2 = some m.cls := findClass_of_methodNamed B.named
  have hlocks := B.notSynchronized
  have hin : meth.name = "<init>" := (name_of_methodNamed B.named B.method).1
  subst hsz
  have hD := hD0.self (sz := s.heap.size)
  generalize hAe : va_A [(h0, .inr (2, [.null, .null, .int 0, .int 0, .int 0, .int 0, .int 0, .int 0]))] s.heap.size = A at hD ⊢
  have hA : ∀ q : Nat, s.heap.size ≤ q → A q := fun q h => by rw [← hAe]; exact Or.inr h
  obtain ⟨H, hHe⟩ : ∃ H : Heap, H = s.heap := ⟨_, rfl⟩
  have hS : va_S A s.heap H [] := by rw [hHe]; exact va_S.rf
  rw [← hHe] at hP
  have hl := lv_entry ([.ref h0]) (n := 1) (Nat.le_of_ble_eq_true rfl)
  rw [lg_entry_eq]
  generalize (lg_sl ([.ref h0]) ++ List.replicate (1 - (lg_sl ([.ref h0])).length) Slot.unset).toArray = ls at hl ⊢
  have hl : lv_has ls 1 [(0, .ref h0)] := hl
  rw [← hHe]
  refine lv_aload_n hx hb dX2_init_0 rfl (lv_at hl 0 rfl) ?_
  refine W.objInit hx hb hown (hts _ pq314) (hts _ pq99) (hts _ pq100) rfl (by rw [hml]; exact hl.1) rfl dX2_init_1 (Nat.le_of_ble_eq_true rfl) (Nat.le_of_ble_eq_true rfl) ?_
  refine W.eq (g2 := F0 m 4 ls []) rfl ?_
  refine lv_aload_n hx hb dX2_init_4 rfl (lv_at hl 0 rfl) ?_
  refine va_new (ci := 3) (fs := [.int 0, .int 0, .null, .int 0, .int 0, .int 0, .int 0, .int 0]) (C := RX3) (T := TX3) (N := 8) hx hb hts inX3 tyX3 tyX3_ok hown (hts _ pq315) (hts _ pq111) (hts _ pq76) hK hP hD hS hA rfl dfX3 (Nat.le_of_ble_eq_true rfl) (Nat.le_of_ble_eq_true rfl) dX2_init_5 (fun q1 H hP hD hS => ?_)
  have hP : va_P (dC, dI) vwCl [(h0, .inr (2, [.null, .null, .int 0, .int 0, .int 0, .int 0, .int 0, .int 0])), (q1, .inr (3, [.int 0, .int 0, .null, .int 0, .int 0, .int 0, .int 0, .int 0]))] H := hP
  have hD : va_D A [(h0, .inr (2, [.null, .null, .int 0, .int 0, .int 0, .int 0, .int 0, .int 0])), (q1, .inr (3, [.int 0, .int 0, .null, .int 0, .int 0, .int 0, .int 0, .int 0]))] := hD
  refine W.widen (k := 1) (n := 8) (Nat.le_of_ble_eq_true rfl) (Nat.le_of_ble_eq_true rfl) ?_
  refine lv_dup hx hb dX2_init_8 rfl ?_
  have hPc := hP.sub (ws' := [(q1, .inr (3, [.int 0, .int 0, .null, .int 0, .int 0, .int 0, .int 0, .int 0]))]) [1] rfl
  have hDc := hD.sub (ws' := [(q1, .inr (3, [.int 0, .int 0, .null, .int 0, .int 0, .int 0, .int 0, .int 0]))]) [1] (by decide) rfl
  have hKc := hK.sub (tys' := []) [] rfl
  have hFc := va_free (wc := [(q1, .inr (3, [.int 0, .int 0, .null, .int 0, .int 0, .int 0, .int 0, .int 0]))]) hD hS hA [1] rfl
  refine va_callv (va_runIN (As := []) (rest := [.ref q1, .ref h0]) ⟨hx, hb, hml, hown, hts⟩ (c_X3_init l dC dI q1 H.size  ) ⟨va_cnB 0 hts (gI pq114) rfl rfl rfl (xN_X2_11 hN) (hts _ pq76) (by decide +kernel) ⟨(Nat.le_of_ble_eq_true rfl), (Nat.le_of_ble_eq_true rfl)⟩, rfl, hts _ pq113⟩ (pc_S hPc hDc hKc hN) rfl rfl hl.1 rfl (lv_room (Nat.le_of_ble_eq_true rfl)) dX2_init_9 ⟨(Nat.le_of_ble_eq_true rfl), (Nat.le_of_ble_eq_true rfl)⟩) hS (fun q _ h => hFc q h) hFc (fun u t H1 locs ht hvm hw hB hz1 hk1 hS => ?_)
  obtain ⟨q2, hP1, hK1, hD1⟩ := hB
  rw [ht] at hP1
  have hK1 := va_K.moved hvm.symm hK1
  obtain ⟨hP, hD⟩ := va_join (wr := [(h0, .inr (2, [.null, .null, .int 0, .int 0, .int 0, .int 0, .int 0, .int 0]))]) (w1 := [(q1, .inr (3, [.int 0, .int 0, .ref q2, .int 0, .int 0, .int 0, .int 0, .int 0]))]) hP hD [1] [0] rfl rfl (by decide) (by decide) hk1 hFc hP1 hD1
  generalize H1 = H at hP hS ⊢
  have hP : va_P (dC, dI) vwCl [(h0, .inr (2, [.null, .null, .int 0, .int 0, .int 0, .int 0, .int 0, .int 0])), (q1, .inr (3, [.int 0, .int 0, .ref q2, .int 0, .int 0, .int 0, .int 0, .int 0]))] H := hP
  have hD : va_D A [(h0, .inr (2, [.null, .null, .int 0, .int 0, .int 0, .int 0, .int 0, .int 0])), (q1, .inr (3, [.int 0, .int 0, .ref q2, .int 0, .int 0, .int 0, .int 0, .int 0]))] := hD
  refine W.widen (k := 2) (n := 88) (Nat.le_of_ble_eq_true rfl) (Nat.le_of_ble_eq_true rfl) ?_
  refine va_putF (D := (dC, dI)) (ci := 2) (v := .ref q1) (ty := tyX2 0) (C := RX2) (T := TX2) (N := 8) hx hb hts inX2 tyX2 tyX2_ok nmX2 hown hK hP hD hS 0 rfl rfl 0 (by decide) (hts _ pq317) (fun _ h9 => h9) rfl hin rfl (by decide +kernel) rfl rfl (Nat.le_of_ble_eq_true rfl) dX2_init_12 (fun H locs hP hD hS => ?_)
  have hP : va_P (dC, dI) vwCl [(h0, .inr (2, [.ref q1, .null, .int 0, .int 0, .int 0, .int 0, .int 0, .int 0])), (q1, .inr (3, [.int 0, .int 0, .ref q2, .int 0, .int 0, .int 0, .int 0, .int 0]))] H := hP
  have hD : va_D A [(h0, .inr (2, [.ref q1, .null, .int 0, .int 0, .int 0, .int 0, .int 0, .int 0])), (q1, .inr (3, [.int 0, .int 0, .ref q2, .int 0, .int 0, .int 0, .int 0, .int 0]))] := hD
  refine lv_aload_n hx hb dX2_init_15 rfl (lv_at hl 0 rfl) ?_
  refine lv_sipush (v := 4000) hx hb dX2_init_16 (by decide +kernel) ?_
  refine va_newa (atype := .int) (ty := .int) (a0 := (4000, .inl (fun _ => 0))) hx hb (hts _ pq347) rfl hK hP hD hS hA (fun _ => rfl) (by decide +kernel) (by decide +kernel) (Nat.le_of_ble_eq_true rfl) (Nat.le_of_ble_eq_true rfl) (Nat.le_of_ble_eq_true rfl) dX2_init_19 (fun q3 k4 H hK hP hD hS => ?_)
  have hP : va_P (dC, dI) vwCl [(h0, .inr (2, [.ref q1, .null, .int 0, .int 0, .int 0, .int 0, .int 0, .int 0])), (q1, .inr (3, [.int 0, .int 0, .ref q2, .int 0, .int 0, .int 0, .int 0, .int 0])), (q3, .inl (k4, 4000, .inl (fun _ => 0)))] H := hP
  have hD : va_D A [(h0, .inr (2, [.ref q1, .null, .int 0, .int 0, .int 0, .int 0, .int 0, .int 0])), (q1, .inr (3, [.int 0, .int 0, .ref q2, .int 0, .int 0, .int 0, .int 0, .int 0])), (q3, .inl (k4, 4000, .inl (fun _ => 0)))] := hD
  have hK : va_K (dC, dI) vwCl [(k4, .int)] s := hK
  refine W.widen (k := 3) (n := 4088) (Nat.le_of_ble_eq_true rfl) (Nat.le_of_ble_eq_true rfl) ?_
  refine va_putF (D := (dC, dI)) (ci := 2) (v := .ref q3) (ty := tyX2 1) (C := RX2) (T := TX2) (N := 8) hx hb hts inX2 tyX2 tyX2_ok nmX2 hown hK hP hD hS 0 rfl rfl 1 (by decide) (hts _ pq318) (fun _ h9 => h9) rfl hin rfl (by decide +kernel) rfl rfl (Nat.le_of_ble_eq_true rfl) dX2_init_21 (fun H locs hP hD hS => ?_)
  have hP : va_P (dC, dI) vwCl [(h0, .inr (2, [.ref q1, .ref q3, .int 0, .int 0, .int 0, .int 0, .int 0, .int 0])), (q1, .inr (3, [.int 0, .int 0, .ref q2, .int 0, .int 0, .int 0, .int 0, .int 0])), (q3, .inl (k4, 4000, .inl (fun _ => 0)))] H := hP
  have hD : va_D A [(h0, .inr (2, [.ref q1, .ref q3, .int 0, .int 0, .int 0, .int 0, .int 0, .int 0])), (q1, .inr (3, [.int 0, .int 0, .ref q2, .int 0, .int 0, .int 0, .int 0, .int 0])), (q3, .inl (k4, 4000, .inl (fun _ => 0)))] := hD
  refine lv_aload_n hx hb dX2_init_24 rfl (lv_at hl 0 rfl) ?_
  refine lv_iconst (v := 0) hx hb dX2_init_25 (by decide +kernel) ?_
  refine va_put (D := (dC, dI)) (ci := 2) (v := .int 0) (ty := tyX2 2) (C := RX2) (T := TX2) (N := 8) hx hb hts inX2 tyX2 tyX2_ok nmX2 hown hK hP hD hS 0 rfl rfl 2 (by decide) (hts _ pq319) (fun _ h9 => h9) rfl (by decide +kernel) rfl rfl (Nat.le_of_ble_eq_true rfl) dX2_init_26 (fun H locs hP hD hS => ?_)
  have hP : va_P (dC, dI) vwCl [(h0, .inr (2, [.ref q1, .ref q3, .int 0, .int 0, .int 0, .int 0, .int 0, .int 0])), (q1, .inr (3, [.int 0, .int 0, .ref q2, .int 0, .int 0, .int 0, .int 0, .int 0])), (q3, .inl (k4, 4000, .inl (fun _ => 0)))] H := hP
  have hD : va_D A [(h0, .inr (2, [.ref q1, .ref q3, .int 0, .int 0, .int 0, .int 0, .int 0, .int 0])), (q1, .inr (3, [.int 0, .int 0, .ref q2, .int 0, .int 0, .int 0, .int 0, .int 0])), (q3, .inl (k4, 4000, .inl (fun _ => 0)))] := hD
  refine lv_aload_n hx hb dX2_init_29 rfl (lv_at hl 0 rfl) ?_
  refine lv_iconst (v := 0) hx hb dX2_init_30 (by decide +kernel) ?_
  refine va_put (D := (dC, dI)) (ci := 2) (v := .int 0) (ty := tyX2 3) (C := RX2) (T := TX2) (N := 8) hx hb hts inX2 tyX2 tyX2_ok nmX2 hown hK hP hD hS 0 rfl rfl 3 (by decide) (hts _ pq320) (fun _ h9 => h9) rfl (by decide +kernel) rfl rfl (Nat.le_of_ble_eq_true rfl) dX2_init_31 (fun H locs hP hD hS => ?_)
  have hP : va_P (dC, dI) vwCl [(h0, .inr (2, [.ref q1, .ref q3, .int 0, .int 0, .int 0, .int 0, .int 0, .int 0])), (q1, .inr (3, [.int 0, .int 0, .ref q2, .int 0, .int 0, .int 0, .int 0, .int 0])), (q3, .inl (k4, 4000, .inl (fun _ => 0)))] H := hP
  have hD : va_D A [(h0, .inr (2, [.ref q1, .ref q3, .int 0, .int 0, .int 0, .int 0, .int 0, .int 0])), (q1, .inr (3, [.int 0, .int 0, .ref q2, .int 0, .int 0, .int 0, .int 0, .int 0])), (q3, .inl (k4, 4000, .inl (fun _ => 0)))] := hD
  refine lv_aload_n hx hb dX2_init_34 rfl (lv_at hl 0 rfl) ?_
  refine lv_iconst (v := 0) hx hb dX2_init_35 (by decide +kernel) ?_
  refine va_put (D := (dC, dI)) (ci := 2) (v := .int 0) (ty := tyX2 4) (C := RX2) (T := TX2) (N := 8) hx hb hts inX2 tyX2 tyX2_ok nmX2 hown hK hP hD hS 0 rfl rfl 4 (by decide) (hts _ pq322) (fun _ h9 => h9) rfl (by decide +kernel) rfl rfl (Nat.le_of_ble_eq_true rfl) dX2_init_36 (fun H locs hP hD hS => ?_)
  have hP : va_P (dC, dI) vwCl [(h0, .inr (2, [.ref q1, .ref q3, .int 0, .int 0, .int 0, .int 0, .int 0, .int 0])), (q1, .inr (3, [.int 0, .int 0, .ref q2, .int 0, .int 0, .int 0, .int 0, .int 0])), (q3, .inl (k4, 4000, .inl (fun _ => 0)))] H := hP
  have hD : va_D A [(h0, .inr (2, [.ref q1, .ref q3, .int 0, .int 0, .int 0, .int 0, .int 0, .int 0])), (q1, .inr (3, [.int 0, .int 0, .ref q2, .int 0, .int 0, .int 0, .int 0, .int 0])), (q3, .inl (k4, 4000, .inl (fun _ => 0)))] := hD
  refine lv_aload_n hx hb dX2_init_39 rfl (lv_at hl 0 rfl) ?_
  refine lv_iconst (v := 0) hx hb dX2_init_40 (by decide +kernel) ?_
  refine va_put (D := (dC, dI)) (ci := 2) (v := .int 0) (ty := tyX2 5) (C := RX2) (T := TX2) (N := 8) hx hb hts inX2 tyX2 tyX2_ok nmX2 hown hK hP hD hS 0 rfl rfl 5 (by decide) (hts _ pq324) (fun _ h9 => h9) rfl (by decide +kernel) rfl rfl (Nat.le_of_ble_eq_true rfl) dX2_init_41 (fun H locs hP hD hS => ?_)
  have hP : va_P (dC, dI) vwCl [(h0, .inr (2, [.ref q1, .ref q3, .int 0, .int 0, .int 0, .int 0, .int 0, .int 0])), (q1, .inr (3, [.int 0, .int 0, .ref q2, .int 0, .int 0, .int 0, .int 0, .int 0])), (q3, .inl (k4, 4000, .inl (fun _ => 0)))] H := hP
  have hD : va_D A [(h0, .inr (2, [.ref q1, .ref q3, .int 0, .int 0, .int 0, .int 0, .int 0, .int 0])), (q1, .inr (3, [.int 0, .int 0, .ref q2, .int 0, .int 0, .int 0, .int 0, .int 0])), (q3, .inl (k4, 4000, .inl (fun _ => 0)))] := hD
  refine lv_aload_n hx hb dX2_init_44 rfl (lv_at hl 0 rfl) ?_
  refine lv_iconst (v := 0) hx hb dX2_init_45 (by decide +kernel) ?_
  refine va_put (D := (dC, dI)) (ci := 2) (v := .int 0) (ty := tyX2 6) (C := RX2) (T := TX2) (N := 8) hx hb hts inX2 tyX2 tyX2_ok nmX2 hown hK hP hD hS 0 rfl rfl 6 (by decide) (hts _ pq326) (fun _ h9 => h9) rfl (by decide +kernel) rfl rfl (Nat.le_of_ble_eq_true rfl) dX2_init_46 (fun H locs hP hD hS => ?_)
  have hP : va_P (dC, dI) vwCl [(h0, .inr (2, [.ref q1, .ref q3, .int 0, .int 0, .int 0, .int 0, .int 0, .int 0])), (q1, .inr (3, [.int 0, .int 0, .ref q2, .int 0, .int 0, .int 0, .int 0, .int 0])), (q3, .inl (k4, 4000, .inl (fun _ => 0)))] H := hP
  have hD : va_D A [(h0, .inr (2, [.ref q1, .ref q3, .int 0, .int 0, .int 0, .int 0, .int 0, .int 0])), (q1, .inr (3, [.int 0, .int 0, .ref q2, .int 0, .int 0, .int 0, .int 0, .int 0])), (q3, .inl (k4, 4000, .inl (fun _ => 0)))] := hD
  refine lv_aload_n hx hb dX2_init_49 rfl (lv_at hl 0 rfl) ?_
  refine lv_iconst (v := 0) hx hb dX2_init_50 (by decide +kernel) ?_
  refine va_put (D := (dC, dI)) (ci := 2) (v := .int 0) (ty := tyX2 7) (C := RX2) (T := TX2) (N := 8) hx hb hts inX2 tyX2 tyX2_ok nmX2 hown hK hP hD hS 0 rfl rfl 7 (by decide) (hts _ pq328) (fun _ h9 => h9) rfl (by decide +kernel) rfl rfl (Nat.le_of_ble_eq_true rfl) dX2_init_51 (fun H locs hP hD hS => ?_)
  have hP : va_P (dC, dI) vwCl [(h0, .inr (2, [.ref q1, .ref q3, .int 0, .int 0, .int 0, .int 0, .int 0, .int 0])), (q1, .inr (3, [.int 0, .int 0, .ref q2, .int 0, .int 0, .int 0, .int 0, .int 0])), (q3, .inl (k4, 4000, .inl (fun _ => 0)))] H := hP
  have hD : va_D A [(h0, .inr (2, [.ref q1, .ref q3, .int 0, .int 0, .int 0, .int 0, .int 0, .int 0])), (q1, .inr (3, [.int 0, .int 0, .ref q2, .int 0, .int 0, .int 0, .int 0, .int 0])), (q3, .inl (k4, 4000, .inl (fun _ => 0)))] := hD
  exact W.vret hx hb hr (fun t ht hW => ⟨⟨(), rfl, trivial, trivial⟩, hS.F ht⟩) hS.2.2 dX2_init_54
end
section
abbrev cX6_init : ByteArray := prog_1_method_1_code
def yX6_init : MethodName := ⟨RX6, "<init>", "()V"⟩
theorem dX6_init_0 : decode cX6_init 0 = .ok (.aload_n 0, 1) := by decide +kernel
theorem dX6_init_1 : decode cX6_init 1 = .ok (.invokespecial 1, 3) := by decide +kernel
theorem dX6_init_4 : decode cX6_init 4 = .ok (.aload_n 0, 1) := by decide +kernel
theorem dX6_init_5 : decode cX6_init 5 = .ok (.sipush 400, 3) := by decide +kernel
theorem dX6_init_8 : decode cX6_init 8 = .ok (.newarray .byte, 2) := by decide +kernel
theorem dX6_init_10 : decode cX6_init 10 = .ok (.putfield 9, 3) := by decide +kernel
theorem dX6_init_13 : decode cX6_init 13 = .ok (.aload_n 0, 1) := by decide +kernel
theorem dX6_init_14 : decode cX6_init 14 = .ok (.iconst 0, 1) := by decide +kernel
theorem dX6_init_15 : decode cX6_init 15 = .ok (.putfield 13, 3) := by decide +kernel
theorem dX6_init_18 : decode cX6_init 18 = .ok (.aload_n 0, 1) := by decide +kernel
theorem dX6_init_19 : decode cX6_init 19 = .ok (.new 17, 3) := by decide +kernel
theorem dX6_init_22 : decode cX6_init 22 = .ok (.dup, 1) := by decide +kernel
theorem dX6_init_23 : decode cX6_init 23 = .ok (.invokespecial 19, 3) := by decide +kernel
theorem dX6_init_26 : decode cX6_init 26 = .ok (.putfield 20, 3) := by decide +kernel
theorem dX6_init_29 : decode cX6_init 29 = .ok (.aload_n 0, 1) := by decide +kernel
theorem dX6_init_30 : decode cX6_init 30 = .ok (.new 17, 3) := by decide +kernel
theorem dX6_init_33 : decode cX6_init 33 = .ok (.dup, 1) := by decide +kernel
theorem dX6_init_34 : decode cX6_init 34 = .ok (.invokespecial 19, 3) := by decide +kernel
theorem dX6_init_37 : decode cX6_init 37 = .ok (.putfield 24, 3) := by decide +kernel
theorem dX6_init_40 : decode cX6_init 40 = .ok (.aload_n 0, 1) := by decide +kernel
theorem dX6_init_41 : decode cX6_init 41 = .ok (.new 27, 3) := by decide +kernel
theorem dX6_init_44 : decode cX6_init 44 = .ok (.dup, 1) := by decide +kernel
theorem dX6_init_45 : decode cX6_init 45 = .ok (.aload_n 0, 1) := by decide +kernel
theorem dX6_init_46 : decode cX6_init 46 = .ok (.getfield 9, 3) := by decide +kernel
theorem dX6_init_49 : decode cX6_init 49 = .ok (.invokespecial 29, 3) := by decide +kernel
theorem dX6_init_52 : decode cX6_init 52 = .ok (.putfield 32, 3) := by decide +kernel
theorem dX6_init_55 : decode cX6_init 55 = .ok (.aload_n 0, 1) := by decide +kernel
theorem dX6_init_56 : decode cX6_init 56 = .ok (.new 36, 3) := by decide +kernel
theorem dX6_init_59 : decode cX6_init 59 = .ok (.dup, 1) := by decide +kernel
theorem dX6_init_60 : decode cX6_init 60 = .ok (.aload_n 0, 1) := by decide +kernel
theorem dX6_init_61 : decode cX6_init 61 = .ok (.getfield 20, 3) := by decide +kernel
theorem dX6_init_64 : decode cX6_init 64 = .ok (.invokespecial 38, 3) := by decide +kernel
theorem dX6_init_67 : decode cX6_init 67 = .ok (.putfield 41, 3) := by decide +kernel
theorem dX6_init_70 : decode cX6_init 70 = .ok (.aload_n 0, 1) := by decide +kernel
theorem dX6_init_71 : decode cX6_init 71 = .ok (.new 45, 3) := by decide +kernel
theorem dX6_init_74 : decode cX6_init 74 = .ok (.dup, 1) := by decide +kernel
theorem dX6_init_75 : decode cX6_init 75 = .ok (.invokespecial 47, 3) := by decide +kernel
theorem dX6_init_78 : decode cX6_init 78 = .ok (.putfield 48, 3) := by decide +kernel
theorem dX6_init_81 : decode cX6_init 81 = .ok (.aload_n 0, 1) := by decide +kernel
theorem dX6_init_82 : decode cX6_init 82 = .ok (.new 52, 3) := by decide +kernel
theorem dX6_init_85 : decode cX6_init 85 = .ok (.dup, 1) := by decide +kernel
theorem dX6_init_86 : decode cX6_init 86 = .ok (.invokespecial 54, 3) := by decide +kernel
theorem dX6_init_89 : decode cX6_init 89 = .ok (.putfield 55, 3) := by decide +kernel
theorem dX6_init_92 : decode cX6_init 92 = .ok (.aload_n 0, 1) := by decide +kernel
theorem dX6_init_93 : decode cX6_init 93 = .ok (.bipush 10, 2) := by decide +kernel
theorem dX6_init_95 : decode cX6_init 95 = .ok (.anewarray 17, 3) := by decide +kernel
theorem dX6_init_98 : decode cX6_init 98 = .ok (.putfield 59, 3) := by decide +kernel
theorem dX6_init_101 : decode cX6_init 101 = .ok (.aload_n 0, 1) := by decide +kernel
theorem dX6_init_102 : decode cX6_init 102 = .ok (.iconst 0, 1) := by decide +kernel
theorem dX6_init_103 : decode cX6_init 103 = .ok (.putfield 63, 3) := by decide +kernel
theorem dX6_init_106 : decode cX6_init 106 = .ok (.aload_n 0, 1) := by decide +kernel
theorem dX6_init_107 : decode cX6_init 107 = .ok (.iconst 0, 1) := by decide +kernel
theorem dX6_init_108 : decode cX6_init 108 = .ok (.putfield 66, 3) := by decide +kernel
theorem dX6_init_111 : decode cX6_init 111 = .ok (.aload_n 0, 1) := by decide +kernel
theorem dX6_init_112 : decode cX6_init 112 = .ok (.iconst 2, 1) := by decide +kernel
theorem dX6_init_113 : decode cX6_init 113 = .ok (.anewarray 17, 3) := by decide +kernel
theorem dX6_init_116 : decode cX6_init 116 = .ok (.putfield 69, 3) := by decide +kernel
theorem dX6_init_119 : decode cX6_init 119 = .ok (.return_, 1) := by decide +kernel
set_option maxRecDepth 100000 in
theorem pq75 : Cond.initialized RX1 ∈ pw := pw_mem (i := 75) (by decide +kernel) rfl
set_option maxRecDepth 100000 in
theorem pq78 : Cond.initialized RX4 ∈ pw := pw_mem (i := 78) (by decide +kernel) rfl
set_option maxRecDepth 100000 in
theorem pq79 : Cond.initialized RX5 ∈ pw := pw_mem (i := 79) (by decide +kernel) rfl
set_option maxRecDepth 100000 in
theorem pq80 : Cond.initialized RX2 ∈ pw := pw_mem (i := 80) (by decide +kernel) rfl
set_option maxRecDepth 100000 in
theorem pq98 : Cond.methodLink RX6 1 objectInit ∈ pw := pw_mem (i := 98) (by decide +kernel) rfl
set_option maxRecDepth 100000 in
theorem pq101 : Cond.classLink RX6 17 RX1 ∈ pw := pw_mem (i := 101) (by decide +kernel) rfl
set_option maxRecDepth 100000 in
theorem pq102 : Cond.instantiable RX1 5 ∈ pw := pw_mem (i := 102) (by decide +kernel) rfl
set_option maxRecDepth 100000 in
theorem pq103 : Cond.methodLink RX6 19 yX1_init ∈ pw := pw_mem (i := 103) (by decide +kernel) rfl
set_option maxRecDepth 100000 in
theorem pq104 : Cond.instanceMethod yX1_init ∈ pw := pw_mem (i := 104) (by decide +kernel) rfl
set_option maxRecDepth 100000 in
theorem pq105 : Cond.code yX1_init cX1_init 2 none ∈ pw := pw_mem (i := 105) (by rfl) rfl
set_option maxRecDepth 100000 in
theorem pq162 : Cond.arrayClass .byte ∈ pw := pw_mem (i := 162) (by decide +kernel) rfl
set_option maxRecDepth 100000 in
theorem pq241 : Cond.classLink RX6 27 RX4 ∈ pw := pw_mem (i := 241) (by decide +kernel) rfl
set_option maxRecDepth 100000 in
theorem pq242 : Cond.instantiable RX4 6 ∈ pw := pw_mem (i := 242) (by decide +kernel) rfl
set_option maxRecDepth 100000 in
theorem pq243 : Cond.methodLink RX6 29 yX4_init ∈ pw := pw_mem (i := 243) (by decide +kernel) rfl
set_option maxRecDepth 100000 in
theorem pq244 : Cond.instanceMethod yX4_init ∈ pw := pw_mem (i := 244) (by decide +kernel) rfl
set_option maxRecDepth 100000 in
theorem pq245 : Cond.code yX4_init cX4_init 2 none ∈ pw := pw_mem (i := 245) (by rfl) rfl
set_option maxRecDepth 100000 in
theorem pq266 : Cond.classLink RX6 36 RX5 ∈ pw := pw_mem (i := 266) (by decide +kernel) rfl
set_option maxRecDepth 100000 in
theorem pq267 : Cond.instantiable RX5 9 ∈ pw := pw_mem (i := 267) (by decide +kernel) rfl
set_option maxRecDepth 100000 in
theorem pq268 : Cond.methodLink RX6 38 yX5_init ∈ pw := pw_mem (i := 268) (by decide +kernel) rfl
set_option maxRecDepth 100000 in
theorem pq269 : Cond.instanceMethod yX5_init ∈ pw := pw_mem (i := 269) (by decide +kernel) rfl
set_option maxRecDepth 100000 in
theorem pq270 : Cond.code yX5_init cX5_init 3 none ∈ pw := pw_mem (i := 270) (by rfl) rfl
set_option maxRecDepth 100000 in
theorem pq307 : Cond.classLink RX6 45 RX3 ∈ pw := pw_mem (i := 307) (by decide +kernel) rfl
set_option maxRecDepth 100000 in
theorem pq309 : Cond.classLink RX6 52 RX2 ∈ pw := pw_mem (i := 309) (by decide +kernel) rfl
set_option maxRecDepth 100000 in
theorem pq310 : Cond.instantiable RX2 8 ∈ pw := pw_mem (i := 310) (by decide +kernel) rfl
set_option maxRecDepth 100000 in
theorem pq312 : Cond.instanceMethod yX2_init ∈ pw := pw_mem (i := 312) (by decide +kernel) rfl
set_option maxRecDepth 100000 in
theorem pq313 : Cond.code yX2_init cX2_init 1 none ∈ pw := pw_mem (i := 313) (by rfl) rfl
set_option maxRecDepth 100000 in
theorem pq349 : Cond.fieldLink RX6 9 "MaskTouch" "tape" "[B" ∈ pw := pw_mem (i := 349) (by decide +kernel) rfl
set_option maxRecDepth 100000 in
theorem pq350 : Cond.fieldLink RX6 13 "MaskTouch" "taped" "I" ∈ pw := pw_mem (i := 350) (by decide +kernel) rfl
set_option maxRecDepth 100000 in
theorem pq352 : Cond.fieldLink RX6 24 "MaskTouch" "draft" "LMaskTouch$Field;" ∈ pw := pw_mem (i := 352) (by decide +kernel) rfl
set_option maxRecDepth 100000 in
theorem pq353 : Cond.fieldLink RX6 32 "MaskTouch" "reader" "LMaskTouch$Reader;" ∈ pw := pw_mem (i := 353) (by decide +kernel) rfl
set_option maxRecDepth 100000 in
theorem pq354 : Cond.fieldLink RX6 41 "MaskTouch" "scene" "LMaskTouch$Scene;" ∈ pw := pw_mem (i := 354) (by decide +kernel) rfl
set_option maxRecDepth 100000 in
theorem pq355 : Cond.fieldLink RX6 48 "MaskTouch" "sketch" "LMaskTouch$Mask;" ∈ pw := pw_mem (i := 355) (by decide +kernel) rfl
set_option maxRecDepth 100000 in
theorem pq356 : Cond.fieldLink RX6 55 "MaskTouch" "flood" "LMaskTouch$Flood;" ∈ pw := pw_mem (i := 356) (by decide +kernel) rfl
set_option maxRecDepth 100000 in
theorem pq357 : Cond.fieldLink RX6 59 "MaskTouch" "past" "[LMaskTouch$Field;" ∈ pw := pw_mem (i := 357) (by decide +kernel) rfl
set_option maxRecDepth 100000 in
theorem pq358 : Cond.fieldLink RX6 63 "MaskTouch" "oldest" "I" ∈ pw := pw_mem (i := 358) (by decide +kernel) rfl
set_option maxRecDepth 100000 in
theorem pq359 : Cond.fieldLink RX6 66 "MaskTouch" "undoable" "I" ∈ pw := pw_mem (i := 359) (by decide +kernel) rfl
set_option maxRecDepth 100000 in
theorem pq360 : Cond.fieldLink RX6 69 "MaskTouch" "shelves" "[LMaskTouch$Field;" ∈ pw := pw_mem (i := 360) (by decide +kernel) rfl
set_option maxHeartbeats 4000000 in
set_option maxRecDepth 100000 in
theorem c_X6_init (l : Launch) (dC : Nat → ClassId) (dI : Nat → Nat → Nat) (h0 : Nat) (sz : Nat) : Met l yX6_init (.code yX6_init cX6_init 1 none :: pw) ({ frames := 3, cells := 90, slots := 7115, locals := 54 }) (pc (dC, dI) [.ref h0] sz [(h0, .inr (6, [.null, .int 0, .null, .null, .null, .null, .null, .null, .null, .int 0, .int 0, .null]))] []) (va_Qv (fun (_ : Unit) => True) (fun _ t => ∃ (tp : Nat), ∃ (nw : Nat), ∃ (dr : Nat), ∃ (rd : Nat), ∃ (sc : Nat), ∃ (sk : Nat), ∃ (fl : Nat), ∃ (ps : Nat), ∃ (sh : Nat), ∃ (nm : Nat), ∃ (nb : Nat), ∃ (dm : Nat), ∃ (db : Nat), ∃ (ss : Nat), ∃ (kB : ClassId), ∃ (kF : ClassId), ∃ (kG : ClassId), wB (dC, dI) [(h0, .inr (6, [.ref tp, .int 0, .ref nw, .ref dr, .ref rd, .ref sc, .ref sk, .ref fl, .ref ps, .int 0, .int 0, .ref sh])), (tp, .inl (kB, 400, .inl (fun _ => 0))), (nw, .inr (1, [.ref nm, .ref nb, .int 0, .int 0, .int 0])), (dr, .inr (1, [.ref dm, .ref db, .int 0, .int 0, .int 0])), (rd, .inr (4, [.ref tp, .int 0, .int 0, .int 0, .int 0, .int 0])), (sc, .inr (5, [.ref nw, .ref ss, .int 0, .int (-1), .int 0, .int 0, .int 0, .int 0, .int 0])), (ps, .inl (kF, 10, .inr (.inr (.inr (.inr (fun _ => none)))))), (sh, .inl (kG, 2, .inr (.inr (.inr (.inr (fun _ => none))))))] [(kB, .byte), (kF, .object RX1), (kG, .object RX1)] (va_A [(h0, .inr (6, [.null, .int 0, .null, .null, .null, .null, .null, .null, .null, .int 0, .int 0, .null]))] sz) t) (va_A [(h0, .inr (6, [.null, .int 0, .null, .null, .null, .null, .null, .null, .null, .int 0, .int 0, .null]))] sz)) 90 7115 (va_A [(h0, .inr (6, [.null, .int 0, .null, .null, .null, .null, .null, .null, .null, .int 0, .int 0, .null]))] sz) := by
  refine Met.ofW (cc := cX6_init) (maxL := 1) (ret := none) (by decide +kernel) rfl ?_
  intro p e s m args below meth c s₁ B hml hv
  obtain ⟨rfl, hsz, hP, hK, hD0, hN⟩ := hv
  have hx := B.exec
  have hb := B.bytes
  have hr := B.returns
  have hts := fun w (h : w ∈ pw) => atoms_spec (ws := Cond.code yX6_init cX6_init 1 none :: pw) B.pre w (List.mem_cons_of_mem _ h)
  have hown : s.vm.findClass RX6 = some m.cls := findClass_of_methodNamed B.named
  have hlocks := B.notSynchronized
  have hin : meth.name = "<init>" := (name_of_methodNamed B.named B.method).1
  subst hsz
  have hD := hD0.self (sz := s.heap.size)
  generalize hAe : va_A [(h0, .inr (6, [.null, .int 0, .null, .null, .null, .null, .null, .null, .null, .int 0, .int 0, .null]))] s.heap.size = A at hD ⊢
  have hA : ∀ q : Nat, s.heap.size ≤ q → A q := fun q h => by rw [← hAe]; exact Or.inr h
  obtain ⟨H, hHe⟩ : ∃ H : Heap, H = s.heap := ⟨_, rfl⟩
  have hS : va_S A s.heap H [] := by rw [hHe]; exact va_S.rf
  rw [← hHe] at hP
  have hl := lv_entry ([.ref h0]) (n := 1) (Nat.le_of_ble_eq_true rfl)
  rw [lg_entry_eq]
  generalize (lg_sl ([.ref h0]) ++ List.replicate (1 - (lg_sl ([.ref h0])).length) Slot.unset).toArray = ls at hl ⊢
  have hl : lv_has ls 1 [(0, .ref h0)] := hl
  rw [← hHe]
  refine lv_aload_n hx hb dX6_init_0 rfl (lv_at hl 0 rfl) ?_
  refine W.objInit hx hb hown (hts _ pq98) (hts _ pq99) (hts _ pq100) rfl (by rw [hml]; exact hl.1) rfl dX6_init_1 (Nat.le_of_ble_eq_true rfl) (Nat.le_of_ble_eq_true rfl) ?_
  refine W.eq (g2 := F0 m 4 ls []) rfl ?_
  refine lv_aload_n hx hb dX6_init_4 rfl (lv_at hl 0 rfl) ?_
  refine lv_sipush (v := 400) hx hb dX6_init_5 (by decide +kernel) ?_
  refine va_newa (atype := .byte) (ty := .byte) (a0 := (400, .inl (fun _ => 0))) hx hb (hts _ pq162) rfl hK hP hD hS hA (fun _ => rfl) (by decide +kernel) (by decide +kernel) (Nat.le_of_ble_eq_true rfl) (Nat.le_of_ble_eq_true rfl) (Nat.le_of_ble_eq_true rfl) dX6_init_8 (fun q1 k2 H hK hP hD hS => ?_)
  have hP : va_P (dC, dI) vwCl [(h0, .inr (6, [.null, .int 0, .null, .null, .null, .null, .null, .null, .null, .int 0, .int 0, .null])), (q1, .inl (k2, 400, .inl (fun _ => 0)))] H := hP
  have hD : va_D A [(h0, .inr (6, [.null, .int 0, .null, .null, .null, .null, .null, .null, .null, .int 0, .int 0, .null])), (q1, .inl (k2, 400, .inl (fun _ => 0)))] := hD
  have hK : va_K (dC, dI) vwCl [(k2, .byte)] s := hK
  refine W.widen (k := 1) (n := 400) (Nat.le_of_ble_eq_true rfl) (Nat.le_of_ble_eq_true rfl) ?_
  refine va_putF (D := (dC, dI)) (ci := 6) (v := .ref q1) (ty := tyX6 0) (C := RX6) (T := TX6) (N := 12) hx hb hts inX6 tyX6 tyX6_ok nmX6 hown hK hP hD hS 0 rfl rfl 0 (by decide) (hts _ pq349) (fun _ h9 => h9) rfl hin rfl (by decide +kernel) rfl rfl (Nat.le_of_ble_eq_true rfl) dX6_init_10 (fun H locs hP hD hS => ?_)
  have hP : va_P (dC, dI) vwCl [(h0, .inr (6, [.ref q1, .int 0, .null, .null, .null, .null, .null, .null, .null, .int 0, .int 0, .null])), (q1, .inl (k2, 400, .inl (fun _ => 0)))] H := hP
  have hD : va_D A [(h0, .inr (6, [.ref q1, .int 0, .null, .null, .null, .null, .null, .null, .null, .int 0, .int 0, .null])), (q1, .inl (k2, 400, .inl (fun _ => 0)))] := hD
  refine lv_aload_n hx hb dX6_init_13 rfl (lv_at hl 0 rfl) ?_
  refine lv_iconst (v := 0) hx hb dX6_init_14 (by decide +kernel) ?_
  refine va_put (D := (dC, dI)) (ci := 6) (v := .int 0) (ty := tyX6 1) (C := RX6) (T := TX6) (N := 12) hx hb hts inX6 tyX6 tyX6_ok nmX6 hown hK hP hD hS 0 rfl rfl 1 (by decide) (hts _ pq350) (fun _ h9 => h9) rfl (by decide +kernel) rfl rfl (Nat.le_of_ble_eq_true rfl) dX6_init_15 (fun H locs hP hD hS => ?_)
  have hP : va_P (dC, dI) vwCl [(h0, .inr (6, [.ref q1, .int 0, .null, .null, .null, .null, .null, .null, .null, .int 0, .int 0, .null])), (q1, .inl (k2, 400, .inl (fun _ => 0)))] H := hP
  have hD : va_D A [(h0, .inr (6, [.ref q1, .int 0, .null, .null, .null, .null, .null, .null, .null, .int 0, .int 0, .null])), (q1, .inl (k2, 400, .inl (fun _ => 0)))] := hD
  refine lv_aload_n hx hb dX6_init_18 rfl (lv_at hl 0 rfl) ?_
  refine va_new (ci := 1) (fs := [.null, .null, .int 0, .int 0, .int 0]) (C := RX1) (T := TX1) (N := 5) hx hb hts inX1 tyX1 tyX1_ok hown (hts _ pq101) (hts _ pq102) (hts _ pq75) hK hP hD hS hA rfl dfX1 (Nat.le_of_ble_eq_true rfl) (Nat.le_of_ble_eq_true rfl) dX6_init_19 (fun q3 H hP hD hS => ?_)
  have hP : va_P (dC, dI) vwCl [(h0, .inr (6, [.ref q1, .int 0, .null, .null, .null, .null, .null, .null, .null, .int 0, .int 0, .null])), (q1, .inl (k2, 400, .inl (fun _ => 0))), (q3, .inr (1, [.null, .null, .int 0, .int 0, .int 0]))] H := hP
  have hD : va_D A [(h0, .inr (6, [.ref q1, .int 0, .null, .null, .null, .null, .null, .null, .null, .int 0, .int 0, .null])), (q1, .inl (k2, 400, .inl (fun _ => 0))), (q3, .inr (1, [.null, .null, .int 0, .int 0, .int 0]))] := hD
  refine W.widen (k := 2) (n := 405) (Nat.le_of_ble_eq_true rfl) (Nat.le_of_ble_eq_true rfl) ?_
  refine lv_dup hx hb dX6_init_22 rfl ?_
  have hPc := hP.sub (ws' := [(q3, .inr (1, [.null, .null, .int 0, .int 0, .int 0]))]) [2] rfl
  have hDc := hD.sub (ws' := [(q3, .inr (1, [.null, .null, .int 0, .int 0, .int 0]))]) [2] (by decide) rfl
  have hKc := hK.sub (tys' := []) [] rfl
  have hFc := va_free (wc := [(q3, .inr (1, [.null, .null, .int 0, .int 0, .int 0]))]) hD hS hA [2] rfl
  refine va_callv (va_runI (As := []) (rest := [.ref q3, .ref h0]) ⟨hx, hb, hml, hown, hts⟩ (c_X1_init l dC dI q3 H.size  ) (cwI 0 hts (gI pq105) rfl rfl rfl (hts _ pq75) (hts _ pq103) (hts _ pq104) rfl (by decide +kernel) ⟨(Nat.le_of_ble_eq_true rfl), (Nat.le_of_ble_eq_true rfl)⟩) (pc_S hPc hDc hKc hN) rfl rfl hl.1 rfl (lv_room (Nat.le_of_ble_eq_true rfl)) dX6_init_23 ⟨(Nat.le_of_ble_eq_true rfl), (Nat.le_of_ble_eq_true rfl)⟩) hS (fun q _ h => hFc q h) hFc (fun u t H1 locs ht hvm hw hB hz1 hk1 hS => ?_)
  obtain ⟨q4, q5, hP1, hK1, hD1⟩ := hB
  rw [ht] at hP1
  have hK1 := va_K.moved hvm.symm hK1
  obtain ⟨hP, hD⟩ := va_join (wr := [(h0, .inr (6, [.ref q1, .int 0, .null, .null, .null, .null, .null, .null, .null, .int 0, .int 0, .null])), (q1, .inl (k2, 400, .inl (fun _ => 0)))]) (w1 := [(q3, .inr (1, [.ref q4, .ref q5, .int 0, .int 0, .int 0]))]) hP hD [2] [0, 1] rfl rfl (by decide) (by decide) hk1 hFc hP1 hD1
  generalize H1 = H at hP hS ⊢
  have hP : va_P (dC, dI) vwCl [(h0, .inr (6, [.ref q1, .int 0, .null, .null, .null, .null, .null, .null, .null, .int 0, .int 0, .null])), (q1, .inl (k2, 400, .inl (fun _ => 0))), (q3, .inr (1, [.ref q4, .ref q5, .int 0, .int 0, .int 0]))] H := hP
  have hD : va_D A [(h0, .inr (6, [.ref q1, .int 0, .null, .null, .null, .null, .null, .null, .null, .int 0, .int 0, .null])), (q1, .inl (k2, 400, .inl (fun _ => 0))), (q3, .inr (1, [.ref q4, .ref q5, .int 0, .int 0, .int 0]))] := hD
  refine W.widen (k := 30) (n := 1207) (Nat.le_of_ble_eq_true rfl) (Nat.le_of_ble_eq_true rfl) ?_
  refine va_putF (D := (dC, dI)) (ci := 6) (v := .ref q3) (ty := tyX6 2) (C := RX6) (T := TX6) (N := 12) hx hb hts inX6 tyX6 tyX6_ok nmX6 hown hK hP hD hS 0 rfl rfl 2 (by decide) (hts _ pq351) (fun _ h9 => h9) rfl hin rfl (by decide +kernel) rfl rfl (Nat.le_of_ble_eq_true rfl) dX6_init_26 (fun H locs hP hD hS => ?_)
  have hP : va_P (dC, dI) vwCl [(h0, .inr (6, [.ref q1, .int 0, .ref q3, .null, .null, .null, .null, .null, .null, .int 0, .int 0, .null])), (q1, .inl (k2, 400, .inl (fun _ => 0))), (q3, .inr (1, [.ref q4, .ref q5, .int 0, .int 0, .int 0]))] H := hP
  have hD : va_D A [(h0, .inr (6, [.ref q1, .int 0, .ref q3, .null, .null, .null, .null, .null, .null, .int 0, .int 0, .null])), (q1, .inl (k2, 400, .inl (fun _ => 0))), (q3, .inr (1, [.ref q4, .ref q5, .int 0, .int 0, .int 0]))] := hD
  refine lv_aload_n hx hb dX6_init_29 rfl (lv_at hl 0 rfl) ?_
  refine va_new (ci := 1) (fs := [.null, .null, .int 0, .int 0, .int 0]) (C := RX1) (T := TX1) (N := 5) hx hb hts inX1 tyX1 tyX1_ok hown (hts _ pq101) (hts _ pq102) (hts _ pq75) hK hP hD hS hA rfl dfX1 (Nat.le_of_ble_eq_true rfl) (Nat.le_of_ble_eq_true rfl) dX6_init_30 (fun q6 H hP hD hS => ?_)
  have hP : va_P (dC, dI) vwCl [(h0, .inr (6, [.ref q1, .int 0, .ref q3, .null, .null, .null, .null, .null, .null, .int 0, .int 0, .null])), (q1, .inl (k2, 400, .inl (fun _ => 0))), (q3, .inr (1, [.ref q4, .ref q5, .int 0, .int 0, .int 0])), (q6, .inr (1, [.null, .null, .int 0, .int 0, .int 0]))] H := hP
  have hD : va_D A [(h0, .inr (6, [.ref q1, .int 0, .ref q3, .null, .null, .null, .null, .null, .null, .int 0, .int 0, .null])), (q1, .inl (k2, 400, .inl (fun _ => 0))), (q3, .inr (1, [.ref q4, .ref q5, .int 0, .int 0, .int 0])), (q6, .inr (1, [.null, .null, .int 0, .int 0, .int 0]))] := hD
  refine W.widen (k := 31) (n := 1212) (Nat.le_of_ble_eq_true rfl) (Nat.le_of_ble_eq_true rfl) ?_
  refine lv_dup hx hb dX6_init_33 rfl ?_
  have hPc := hP.sub (ws' := [(q6, .inr (1, [.null, .null, .int 0, .int 0, .int 0]))]) [3] rfl
  have hDc := hD.sub (ws' := [(q6, .inr (1, [.null, .null, .int 0, .int 0, .int 0]))]) [3] (by decide) rfl
  have hKc := hK.sub (tys' := []) [] rfl
  have hFc := va_free (wc := [(q6, .inr (1, [.null, .null, .int 0, .int 0, .int 0]))]) hD hS hA [3] rfl
  refine va_callv (va_runI (As := []) (rest := [.ref q6, .ref h0]) ⟨hx, hb, hml, hown, hts⟩ (c_X1_init l dC dI q6 H.size  ) (cwI 0 hts (gI pq105) rfl rfl rfl (hts _ pq75) (hts _ pq103) (hts _ pq104) rfl (by decide +kernel) ⟨(Nat.le_of_ble_eq_true rfl), (Nat.le_of_ble_eq_true rfl)⟩) (pc_S hPc hDc hKc hN) rfl rfl hl.1 rfl (lv_room (Nat.le_of_ble_eq_true rfl)) dX6_init_34 ⟨(Nat.le_of_ble_eq_true rfl), (Nat.le_of_ble_eq_true rfl)⟩) hS (fun q _ h => hFc q h) hFc (fun u t H1 locs ht hvm hw hB hz1 hk1 hS => ?_)
  obtain ⟨q7, q8, hP1, hK1, hD1⟩ := hB
  rw [ht] at hP1
  have hK1 := va_K.moved hvm.symm hK1
  obtain ⟨hP, hD⟩ := va_join (wr := [(h0, .inr (6, [.ref q1, .int 0, .ref q3, .null, .null, .null, .null, .null, .null, .int 0, .int 0, .null])), (q1, .inl (k2, 400, .inl (fun _ => 0))), (q3, .inr (1, [.ref q4, .ref q5, .int 0, .int 0, .int 0]))]) (w1 := [(q6, .inr (1, [.ref q7, .ref q8, .int 0, .int 0, .int 0]))]) hP hD [3] [0, 1, 2] rfl rfl (by decide) (by decide) hk1 hFc hP1 hD1
  generalize H1 = H at hP hS ⊢
  have hP : va_P (dC, dI) vwCl [(h0, .inr (6, [.ref q1, .int 0, .ref q3, .null, .null, .null, .null, .null, .null, .int 0, .int 0, .null])), (q1, .inl (k2, 400, .inl (fun _ => 0))), (q3, .inr (1, [.ref q4, .ref q5, .int 0, .int 0, .int 0])), (q6, .inr (1, [.ref q7, .ref q8, .int 0, .int 0, .int 0]))] H := hP
  have hD : va_D A [(h0, .inr (6, [.ref q1, .int 0, .ref q3, .null, .null, .null, .null, .null, .null, .int 0, .int 0, .null])), (q1, .inl (k2, 400, .inl (fun _ => 0))), (q3, .inr (1, [.ref q4, .ref q5, .int 0, .int 0, .int 0])), (q6, .inr (1, [.ref q7, .ref q8, .int 0, .int 0, .int 0]))] := hD
  refine W.widen (k := 59) (n := 2014) (Nat.le_of_ble_eq_true rfl) (Nat.le_of_ble_eq_true rfl) ?_
  refine va_putF (D := (dC, dI)) (ci := 6) (v := .ref q6) (ty := tyX6 3) (C := RX6) (T := TX6) (N := 12) hx hb hts inX6 tyX6 tyX6_ok nmX6 hown hK hP hD hS 0 rfl rfl 3 (by decide) (hts _ pq352) (fun _ h9 => h9) rfl hin rfl (by decide +kernel) rfl rfl (Nat.le_of_ble_eq_true rfl) dX6_init_37 (fun H locs hP hD hS => ?_)
  have hP : va_P (dC, dI) vwCl [(h0, .inr (6, [.ref q1, .int 0, .ref q3, .ref q6, .null, .null, .null, .null, .null, .int 0, .int 0, .null])), (q1, .inl (k2, 400, .inl (fun _ => 0))), (q3, .inr (1, [.ref q4, .ref q5, .int 0, .int 0, .int 0])), (q6, .inr (1, [.ref q7, .ref q8, .int 0, .int 0, .int 0]))] H := hP
  have hD : va_D A [(h0, .inr (6, [.ref q1, .int 0, .ref q3, .ref q6, .null, .null, .null, .null, .null, .int 0, .int 0, .null])), (q1, .inl (k2, 400, .inl (fun _ => 0))), (q3, .inr (1, [.ref q4, .ref q5, .int 0, .int 0, .int 0])), (q6, .inr (1, [.ref q7, .ref q8, .int 0, .int 0, .int 0]))] := hD
  refine lv_aload_n hx hb dX6_init_40 rfl (lv_at hl 0 rfl) ?_
  refine va_new (ci := 4) (fs := [.null, .int 0, .int 0, .int 0, .int 0, .int 0]) (C := RX4) (T := TX4) (N := 6) hx hb hts inX4 tyX4 tyX4_ok hown (hts _ pq241) (hts _ pq242) (hts _ pq78) hK hP hD hS hA rfl dfX4 (Nat.le_of_ble_eq_true rfl) (Nat.le_of_ble_eq_true rfl) dX6_init_41 (fun q9 H hP hD hS => ?_)
  have hP : va_P (dC, dI) vwCl [(h0, .inr (6, [.ref q1, .int 0, .ref q3, .ref q6, .null, .null, .null, .null, .null, .int 0, .int 0, .null])), (q1, .inl (k2, 400, .inl (fun _ => 0))), (q3, .inr (1, [.ref q4, .ref q5, .int 0, .int 0, .int 0])), (q6, .inr (1, [.ref q7, .ref q8, .int 0, .int 0, .int 0])), (q9, .inr (4, [.null, .int 0, .int 0, .int 0, .int 0, .int 0]))] H := hP
  have hD : va_D A [(h0, .inr (6, [.ref q1, .int 0, .ref q3, .ref q6, .null, .null, .null, .null, .null, .int 0, .int 0, .null])), (q1, .inl (k2, 400, .inl (fun _ => 0))), (q3, .inr (1, [.ref q4, .ref q5, .int 0, .int 0, .int 0])), (q6, .inr (1, [.ref q7, .ref q8, .int 0, .int 0, .int 0])), (q9, .inr (4, [.null, .int 0, .int 0, .int 0, .int 0, .int 0]))] := hD
  refine W.widen (k := 60) (n := 2020) (Nat.le_of_ble_eq_true rfl) (Nat.le_of_ble_eq_true rfl) ?_
  refine lv_dup hx hb dX6_init_44 rfl ?_
  refine lv_aload_n hx hb dX6_init_45 rfl (lv_at hl 0 rfl) ?_
  refine va_get (D := (dC, dI)) (ci := 6) (v := .ref q1) (C := RX6) (T := TX6) (N := 12) hx hb hts inX6 hown hK hP 0 rfl rfl 0 (by decide) (hts _ pq349) (fun _ h9 => h9) rfl dX6_init_46 ?_
  have hPc := hP.sub (ws' := [(q9, .inr (4, [.null, .int 0, .int 0, .int 0, .int 0, .int 0]))]) [4] rfl
  have hDc := hD.sub (ws' := [(q9, .inr (4, [.null, .int 0, .int 0, .int 0, .int 0, .int 0]))]) [4] (by decide) rfl
  have hKc := hK.sub (tys' := []) [] rfl
  have hFc := va_free (wc := [(q9, .inr (4, [.null, .int 0, .int 0, .int 0, .int 0, .int 0]))]) hD hS hA [4] rfl
  refine va_callv (va_runI (As := [.ref q1]) (rest := [.ref q9, .ref h0]) ⟨hx, hb, hml, hown, hts⟩ (c_X4_init l dC dI q9 q1 H.size  ) (cwI 1 hts (gI pq245) rfl rfl rfl (hts _ pq78) (hts _ pq243) (hts _ pq244) rfl (by decide +kernel) ⟨(Nat.le_of_ble_eq_true rfl), (Nat.le_of_ble_eq_true rfl)⟩) (pc_S hPc hDc hKc hN) rfl rfl hl.1 rfl (lv_room (Nat.le_of_ble_eq_true rfl)) dX6_init_49 ⟨(Nat.le_of_ble_eq_true rfl), (Nat.le_of_ble_eq_true rfl)⟩) hS (fun q _ h => hFc q h) hFc (fun u t H1 locs ht hvm hw hB hz1 hk1 hS => ?_)
  obtain ⟨hP1, hK1, hD1⟩ := hB
  rw [ht] at hP1
  have hK1 := va_K.moved hvm.symm hK1
  obtain ⟨hP, hD⟩ := va_join (wr := [(h0, .inr (6, [.ref q1, .int 0, .ref q3, .ref q6, .null, .null, .null, .null, .null, .int 0, .int 0, .null])), (q1, .inl (k2, 400, .inl (fun _ => 0))), (q3, .inr (1, [.ref q4, .ref q5, .int 0, .int 0, .int 0])), (q6, .inr (1, [.ref q7, .ref q8, .int 0, .int 0, .int 0]))]) (w1 := [(q9, .inr (4, [.ref q1, .int 0, .int 0, .int 0, .int 0, .int 0]))]) hP hD [4] [0, 1, 2, 3] rfl rfl (by decide) (by decide) hk1 hFc hP1 hD1
  generalize H1 = H at hP hS ⊢
  have hP : va_P (dC, dI) vwCl [(h0, .inr (6, [.ref q1, .int 0, .ref q3, .ref q6, .null, .null, .null, .null, .null, .int 0, .int 0, .null])), (q1, .inl (k2, 400, .inl (fun _ => 0))), (q3, .inr (1, [.ref q4, .ref q5, .int 0, .int 0, .int 0])), (q6, .inr (1, [.ref q7, .ref q8, .int 0, .int 0, .int 0])), (q9, .inr (4, [.ref q1, .int 0, .int 0, .int 0, .int 0, .int 0]))] H := hP
  have hD : va_D A [(h0, .inr (6, [.ref q1, .int 0, .ref q3, .ref q6, .null, .null, .null, .null, .null, .int 0, .int 0, .null])), (q1, .inl (k2, 400, .inl (fun _ => 0))), (q3, .inr (1, [.ref q4, .ref q5, .int 0, .int 0, .int 0])), (q6, .inr (1, [.ref q7, .ref q8, .int 0, .int 0, .int 0])), (q9, .inr (4, [.ref q1, .int 0, .int 0, .int 0, .int 0, .int 0]))] := hD
  refine va_putF (D := (dC, dI)) (ci := 6) (v := .ref q9) (ty := tyX6 4) (C := RX6) (T := TX6) (N := 12) hx hb hts inX6 tyX6 tyX6_ok nmX6 hown hK hP hD hS 0 rfl rfl 4 (by decide) (hts _ pq353) (fun _ h9 => h9) rfl hin rfl (by decide +kernel) rfl rfl (Nat.le_of_ble_eq_true rfl) dX6_init_52 (fun H locs hP hD hS => ?_)
  have hP : va_P (dC, dI) vwCl [(h0, .inr (6, [.ref q1, .int 0, .ref q3, .ref q6, .ref q9, .null, .null, .null, .null, .int 0, .int 0, .null])), (q1, .inl (k2, 400, .inl (fun _ => 0))), (q3, .inr (1, [.ref q4, .ref q5, .int 0, .int 0, .int 0])), (q6, .inr (1, [.ref q7, .ref q8, .int 0, .int 0, .int 0])), (q9, .inr (4, [.ref q1, .int 0, .int 0, .int 0, .int 0, .int 0]))] H := hP
  have hD : va_D A [(h0, .inr (6, [.ref q1, .int 0, .ref q3, .ref q6, .ref q9, .null, .null, .null, .null, .int 0, .int 0, .null])), (q1, .inl (k2, 400, .inl (fun _ => 0))), (q3, .inr (1, [.ref q4, .ref q5, .int 0, .int 0, .int 0])), (q6, .inr (1, [.ref q7, .ref q8, .int 0, .int 0, .int 0])), (q9, .inr (4, [.ref q1, .int 0, .int 0, .int 0, .int 0, .int 0]))] := hD
  refine lv_aload_n hx hb dX6_init_55 rfl (lv_at hl 0 rfl) ?_
  refine va_new (ci := 5) (fs := [.null, .null, .int 0, .int 0, .int 0, .int 0, .int 0, .int 0, .int 0]) (C := RX5) (T := TX5) (N := 9) hx hb hts inX5 tyX5 tyX5_ok hown (hts _ pq266) (hts _ pq267) (hts _ pq79) hK hP hD hS hA rfl dfX5 (Nat.le_of_ble_eq_true rfl) (Nat.le_of_ble_eq_true rfl) dX6_init_56 (fun q10 H hP hD hS => ?_)
  have hP : va_P (dC, dI) vwCl [(h0, .inr (6, [.ref q1, .int 0, .ref q3, .ref q6, .ref q9, .null, .null, .null, .null, .int 0, .int 0, .null])), (q1, .inl (k2, 400, .inl (fun _ => 0))), (q3, .inr (1, [.ref q4, .ref q5, .int 0, .int 0, .int 0])), (q6, .inr (1, [.ref q7, .ref q8, .int 0, .int 0, .int 0])), (q9, .inr (4, [.ref q1, .int 0, .int 0, .int 0, .int 0, .int 0])), (q10, .inr (5, [.null, .null, .int 0, .int 0, .int 0, .int 0, .int 0, .int 0, .int 0]))] H := hP
  have hD : va_D A [(h0, .inr (6, [.ref q1, .int 0, .ref q3, .ref q6, .ref q9, .null, .null, .null, .null, .int 0, .int 0, .null])), (q1, .inl (k2, 400, .inl (fun _ => 0))), (q3, .inr (1, [.ref q4, .ref q5, .int 0, .int 0, .int 0])), (q6, .inr (1, [.ref q7, .ref q8, .int 0, .int 0, .int 0])), (q9, .inr (4, [.ref q1, .int 0, .int 0, .int 0, .int 0, .int 0])), (q10, .inr (5, [.null, .null, .int 0, .int 0, .int 0, .int 0, .int 0, .int 0, .int 0]))] := hD
  refine W.widen (k := 61) (n := 2029) (Nat.le_of_ble_eq_true rfl) (Nat.le_of_ble_eq_true rfl) ?_
  refine lv_dup hx hb dX6_init_59 rfl ?_
  refine lv_aload_n hx hb dX6_init_60 rfl (lv_at hl 0 rfl) ?_
  refine va_get (D := (dC, dI)) (ci := 6) (v := .ref q3) (C := RX6) (T := TX6) (N := 12) hx hb hts inX6 hown hK hP 0 rfl rfl 2 (by decide) (hts _ pq351) (fun _ h9 => h9) rfl dX6_init_61 ?_
  have hPc := hP.sub (ws' := [(q10, .inr (5, [.null, .null, .int 0, .int 0, .int 0, .int 0, .int 0, .int 0, .int 0]))]) [5] rfl
  have hDc := hD.sub (ws' := [(q10, .inr (5, [.null, .null, .int 0, .int 0, .int 0, .int 0, .int 0, .int 0, .int 0]))]) [5] (by decide) rfl
  have hKc := hK.sub (tys' := []) [] rfl
  have hFc := va_free (wc := [(q10, .inr (5, [.null, .null, .int 0, .int 0, .int 0, .int 0, .int 0, .int 0, .int 0]))]) hD hS hA [5] rfl
  refine va_callv (va_runI (As := [.ref q3]) (rest := [.ref q10, .ref h0]) ⟨hx, hb, hml, hown, hts⟩ (c_X5_init l dC dI q10 q3 H.size  ) (cwI 1 hts (gI pq270) rfl rfl rfl (hts _ pq79) (hts _ pq268) (hts _ pq269) rfl (by decide +kernel) ⟨(Nat.le_of_ble_eq_true rfl), (Nat.le_of_ble_eq_true rfl)⟩) (pc_S hPc hDc hKc hN) rfl rfl hl.1 rfl (lv_room (Nat.le_of_ble_eq_true rfl)) dX6_init_64 ⟨(Nat.le_of_ble_eq_true rfl), (Nat.le_of_ble_eq_true rfl)⟩) hS (fun q _ h => hFc q h) hFc (fun u t H1 locs ht hvm hw hB hz1 hk1 hS => ?_)
  obtain ⟨q11, hP1, hK1, hD1⟩ := hB
  rw [ht] at hP1
  have hK1 := va_K.moved hvm.symm hK1
  obtain ⟨hP, hD⟩ := va_join (wr := [(h0, .inr (6, [.ref q1, .int 0, .ref q3, .ref q6, .ref q9, .null, .null, .null, .null, .int 0, .int 0, .null])), (q1, .inl (k2, 400, .inl (fun _ => 0))), (q3, .inr (1, [.ref q4, .ref q5, .int 0, .int 0, .int 0])), (q6, .inr (1, [.ref q7, .ref q8, .int 0, .int 0, .int 0])), (q9, .inr (4, [.ref q1, .int 0, .int 0, .int 0, .int 0, .int 0]))]) (w1 := [(q10, .inr (5, [.ref q3, .ref q11, .int 0, .int (-1), .int 0, .int 0, .int 0, .int 0, .int 0]))]) hP hD [5] [0, 1, 2, 3, 4] rfl rfl (by decide) (by decide) hk1 hFc hP1 hD1
  generalize H1 = H at hP hS ⊢
  have hP : va_P (dC, dI) vwCl [(h0, .inr (6, [.ref q1, .int 0, .ref q3, .ref q6, .ref q9, .null, .null, .null, .null, .int 0, .int 0, .null])), (q1, .inl (k2, 400, .inl (fun _ => 0))), (q3, .inr (1, [.ref q4, .ref q5, .int 0, .int 0, .int 0])), (q6, .inr (1, [.ref q7, .ref q8, .int 0, .int 0, .int 0])), (q9, .inr (4, [.ref q1, .int 0, .int 0, .int 0, .int 0, .int 0])), (q10, .inr (5, [.ref q3, .ref q11, .int 0, .int (-1), .int 0, .int 0, .int 0, .int 0, .int 0]))] H := hP
  have hD : va_D A [(h0, .inr (6, [.ref q1, .int 0, .ref q3, .ref q6, .ref q9, .null, .null, .null, .null, .int 0, .int 0, .null])), (q1, .inl (k2, 400, .inl (fun _ => 0))), (q3, .inr (1, [.ref q4, .ref q5, .int 0, .int 0, .int 0])), (q6, .inr (1, [.ref q7, .ref q8, .int 0, .int 0, .int 0])), (q9, .inr (4, [.ref q1, .int 0, .int 0, .int 0, .int 0, .int 0])), (q10, .inr (5, [.ref q3, .ref q11, .int 0, .int (-1), .int 0, .int 0, .int 0, .int 0, .int 0]))] := hD
  refine W.widen (k := 82) (n := 2919) (Nat.le_of_ble_eq_true rfl) (Nat.le_of_ble_eq_true rfl) ?_
  refine va_putF (D := (dC, dI)) (ci := 6) (v := .ref q10) (ty := tyX6 5) (C := RX6) (T := TX6) (N := 12) hx hb hts inX6 tyX6 tyX6_ok nmX6 hown hK hP hD hS 0 rfl rfl 5 (by decide) (hts _ pq354) (fun _ h9 => h9) rfl hin rfl (by decide +kernel) rfl rfl (Nat.le_of_ble_eq_true rfl) dX6_init_67 (fun H locs hP hD hS => ?_)
  have hP : va_P (dC, dI) vwCl [(h0, .inr (6, [.ref q1, .int 0, .ref q3, .ref q6, .ref q9, .ref q10, .null, .null, .null, .int 0, .int 0, .null])), (q1, .inl (k2, 400, .inl (fun _ => 0))), (q3, .inr (1, [.ref q4, .ref q5, .int 0, .int 0, .int 0])), (q6, .inr (1, [.ref q7, .ref q8, .int 0, .int 0, .int 0])), (q9, .inr (4, [.ref q1, .int 0, .int 0, .int 0, .int 0, .int 0])), (q10, .inr (5, [.ref q3, .ref q11, .int 0, .int (-1), .int 0, .int 0, .int 0, .int 0, .int 0]))] H := hP
  have hD : va_D A [(h0, .inr (6, [.ref q1, .int 0, .ref q3, .ref q6, .ref q9, .ref q10, .null, .null, .null, .int 0, .int 0, .null])), (q1, .inl (k2, 400, .inl (fun _ => 0))), (q3, .inr (1, [.ref q4, .ref q5, .int 0, .int 0, .int 0])), (q6, .inr (1, [.ref q7, .ref q8, .int 0, .int 0, .int 0])), (q9, .inr (4, [.ref q1, .int 0, .int 0, .int 0, .int 0, .int 0])), (q10, .inr (5, [.ref q3, .ref q11, .int 0, .int (-1), .int 0, .int 0, .int 0, .int 0, .int 0]))] := hD
  refine lv_aload_n hx hb dX6_init_70 rfl (lv_at hl 0 rfl) ?_
  refine va_new (ci := 3) (fs := [.int 0, .int 0, .null, .int 0, .int 0, .int 0, .int 0, .int 0]) (C := RX3) (T := TX3) (N := 8) hx hb hts inX3 tyX3 tyX3_ok hown (hts _ pq307) (hts _ pq111) (hts _ pq76) hK hP hD hS hA rfl dfX3 (Nat.le_of_ble_eq_true rfl) (Nat.le_of_ble_eq_true rfl) dX6_init_71 (fun q12 H hP hD hS => ?_)
  have hP : va_P (dC, dI) vwCl [(h0, .inr (6, [.ref q1, .int 0, .ref q3, .ref q6, .ref q9, .ref q10, .null, .null, .null, .int 0, .int 0, .null])), (q1, .inl (k2, 400, .inl (fun _ => 0))), (q3, .inr (1, [.ref q4, .ref q5, .int 0, .int 0, .int 0])), (q6, .inr (1, [.ref q7, .ref q8, .int 0, .int 0, .int 0])), (q9, .inr (4, [.ref q1, .int 0, .int 0, .int 0, .int 0, .int 0])), (q10, .inr (5, [.ref q3, .ref q11, .int 0, .int (-1), .int 0, .int 0, .int 0, .int 0, .int 0])), (q12, .inr (3, [.int 0, .int 0, .null, .int 0, .int 0, .int 0, .int 0, .int 0]))] H := hP
  have hD : va_D A [(h0, .inr (6, [.ref q1, .int 0, .ref q3, .ref q6, .ref q9, .ref q10, .null, .null, .null, .int 0, .int 0, .null])), (q1, .inl (k2, 400, .inl (fun _ => 0))), (q3, .inr (1, [.ref q4, .ref q5, .int 0, .int 0, .int 0])), (q6, .inr (1, [.ref q7, .ref q8, .int 0, .int 0, .int 0])), (q9, .inr (4, [.ref q1, .int 0, .int 0, .int 0, .int 0, .int 0])), (q10, .inr (5, [.ref q3, .ref q11, .int 0, .int (-1), .int 0, .int 0, .int 0, .int 0, .int 0])), (q12, .inr (3, [.int 0, .int 0, .null, .int 0, .int 0, .int 0, .int 0, .int 0]))] := hD
  refine W.widen (k := 83) (n := 2927) (Nat.le_of_ble_eq_true rfl) (Nat.le_of_ble_eq_true rfl) ?_
  refine lv_dup hx hb dX6_init_74 rfl ?_
  have hPc := hP.sub (ws' := [(q12, .inr (3, [.int 0, .int 0, .null, .int 0, .int 0, .int 0, .int 0, .int 0]))]) [6] rfl
  have hDc := hD.sub (ws' := [(q12, .inr (3, [.int 0, .int 0, .null, .int 0, .int 0, .int 0, .int 0, .int 0]))]) [6] (by decide) rfl
  have hKc := hK.sub (tys' := []) [] rfl
  have hFc := va_free (wc := [(q12, .inr (3, [.int 0, .int 0, .null, .int 0, .int 0, .int 0, .int 0, .int 0]))]) hD hS hA [6] rfl
  refine va_callv (va_runIN (As := []) (rest := [.ref q12, .ref h0]) ⟨hx, hb, hml, hown, hts⟩ (c_X3_init l dC dI q12 H.size  ) ⟨va_cnB 0 hts (gI pq114) rfl rfl rfl (xN_X6_47 hN) (hts _ pq76) (by decide +kernel) ⟨(Nat.le_of_ble_eq_true rfl), (Nat.le_of_ble_eq_true rfl)⟩, rfl, hts _ pq113⟩ (pc_S hPc hDc hKc hN) rfl rfl hl.1 rfl (lv_room (Nat.le_of_ble_eq_true rfl)) dX6_init_75 ⟨(Nat.le_of_ble_eq_true rfl), (Nat.le_of_ble_eq_true rfl)⟩) hS (fun q _ h => hFc q h) hFc (fun u t H1 locs ht hvm hw hB hz1 hk1 hS => ?_)
  obtain ⟨q13, hP1, hK1, hD1⟩ := hB
  rw [ht] at hP1
  have hK1 := va_K.moved hvm.symm hK1
  obtain ⟨hP, hD⟩ := va_join (wr := [(h0, .inr (6, [.ref q1, .int 0, .ref q3, .ref q6, .ref q9, .ref q10, .null, .null, .null, .int 0, .int 0, .null])), (q1, .inl (k2, 400, .inl (fun _ => 0))), (q3, .inr (1, [.ref q4, .ref q5, .int 0, .int 0, .int 0])), (q6, .inr (1, [.ref q7, .ref q8, .int 0, .int 0, .int 0])), (q9, .inr (4, [.ref q1, .int 0, .int 0, .int 0, .int 0, .int 0])), (q10, .inr (5, [.ref q3, .ref q11, .int 0, .int (-1), .int 0, .int 0, .int 0, .int 0, .int 0]))]) (w1 := [(q12, .inr (3, [.int 0, .int 0, .ref q13, .int 0, .int 0, .int 0, .int 0, .int 0]))]) hP hD [6] [0, 1, 2, 3, 4, 5] rfl rfl (by decide) (by decide) hk1 hFc hP1 hD1
  generalize H1 = H at hP hS ⊢
  have hP : va_P (dC, dI) vwCl [(h0, .inr (6, [.ref q1, .int 0, .ref q3, .ref q6, .ref q9, .ref q10, .null, .null, .null, .int 0, .int 0, .null])), (q1, .inl (k2, 400, .inl (fun _ => 0))), (q3, .inr (1, [.ref q4, .ref q5, .int 0, .int 0, .int 0])), (q6, .inr (1, [.ref q7, .ref q8, .int 0, .int 0, .int 0])), (q9, .inr (4, [.ref q1, .int 0, .int 0, .int 0, .int 0, .int 0])), (q10, .inr (5, [.ref q3, .ref q11, .int 0, .int (-1), .int 0, .int 0, .int 0, .int 0, .int 0])), (q12, .inr (3, [.int 0, .int 0, .ref q13, .int 0, .int 0, .int 0, .int 0, .int 0]))] H := hP
  have hD : va_D A [(h0, .inr (6, [.ref q1, .int 0, .ref q3, .ref q6, .ref q9, .ref q10, .null, .null, .null, .int 0, .int 0, .null])), (q1, .inl (k2, 400, .inl (fun _ => 0))), (q3, .inr (1, [.ref q4, .ref q5, .int 0, .int 0, .int 0])), (q6, .inr (1, [.ref q7, .ref q8, .int 0, .int 0, .int 0])), (q9, .inr (4, [.ref q1, .int 0, .int 0, .int 0, .int 0, .int 0])), (q10, .inr (5, [.ref q3, .ref q11, .int 0, .int (-1), .int 0, .int 0, .int 0, .int 0, .int 0])), (q12, .inr (3, [.int 0, .int 0, .ref q13, .int 0, .int 0, .int 0, .int 0, .int 0]))] := hD
  refine W.widen (k := 84) (n := 3007) (Nat.le_of_ble_eq_true rfl) (Nat.le_of_ble_eq_true rfl) ?_
  refine va_putF (D := (dC, dI)) (ci := 6) (v := .ref q12) (ty := tyX6 6) (C := RX6) (T := TX6) (N := 12) hx hb hts inX6 tyX6 tyX6_ok nmX6 hown hK hP hD hS 0 rfl rfl 6 (by decide) (hts _ pq355) (fun _ h9 => h9) rfl hin rfl (by decide +kernel) rfl rfl (Nat.le_of_ble_eq_true rfl) dX6_init_78 (fun H locs hP hD hS => ?_)
  have hP : va_P (dC, dI) vwCl [(h0, .inr (6, [.ref q1, .int 0, .ref q3, .ref q6, .ref q9, .ref q10, .ref q12, .null, .null, .int 0, .int 0, .null])), (q1, .inl (k2, 400, .inl (fun _ => 0))), (q3, .inr (1, [.ref q4, .ref q5, .int 0, .int 0, .int 0])), (q6, .inr (1, [.ref q7, .ref q8, .int 0, .int 0, .int 0])), (q9, .inr (4, [.ref q1, .int 0, .int 0, .int 0, .int 0, .int 0])), (q10, .inr (5, [.ref q3, .ref q11, .int 0, .int (-1), .int 0, .int 0, .int 0, .int 0, .int 0])), (q12, .inr (3, [.int 0, .int 0, .ref q13, .int 0, .int 0, .int 0, .int 0, .int 0]))] H := hP
  have hD : va_D A [(h0, .inr (6, [.ref q1, .int 0, .ref q3, .ref q6, .ref q9, .ref q10, .ref q12, .null, .null, .int 0, .int 0, .null])), (q1, .inl (k2, 400, .inl (fun _ => 0))), (q3, .inr (1, [.ref q4, .ref q5, .int 0, .int 0, .int 0])), (q6, .inr (1, [.ref q7, .ref q8, .int 0, .int 0, .int 0])), (q9, .inr (4, [.ref q1, .int 0, .int 0, .int 0, .int 0, .int 0])), (q10, .inr (5, [.ref q3, .ref q11, .int 0, .int (-1), .int 0, .int 0, .int 0, .int 0, .int 0])), (q12, .inr (3, [.int 0, .int 0, .ref q13, .int 0, .int 0, .int 0, .int 0, .int 0]))] := hD
  refine lv_aload_n hx hb dX6_init_81 rfl (lv_at hl 0 rfl) ?_
  refine va_new (ci := 2) (fs := [.null, .null, .int 0, .int 0, .int 0, .int 0, .int 0, .int 0]) (C := RX2) (T := TX2) (N := 8) hx hb hts inX2 tyX2 tyX2_ok hown (hts _ pq309) (hts _ pq310) (hts _ pq80) hK hP hD hS hA rfl dfX2 (Nat.le_of_ble_eq_true rfl) (Nat.le_of_ble_eq_true rfl) dX6_init_82 (fun q14 H hP hD hS => ?_)
  have hP : va_P (dC, dI) vwCl [(h0, .inr (6, [.ref q1, .int 0, .ref q3, .ref q6, .ref q9, .ref q10, .ref q12, .null, .null, .int 0, .int 0, .null])), (q1, .inl (k2, 400, .inl (fun _ => 0))), (q3, .inr (1, [.ref q4, .ref q5, .int 0, .int 0, .int 0])), (q6, .inr (1, [.ref q7, .ref q8, .int 0, .int 0, .int 0])), (q9, .inr (4, [.ref q1, .int 0, .int 0, .int 0, .int 0, .int 0])), (q10, .inr (5, [.ref q3, .ref q11, .int 0, .int (-1), .int 0, .int 0, .int 0, .int 0, .int 0])), (q12, .inr (3, [.int 0, .int 0, .ref q13, .int 0, .int 0, .int 0, .int 0, .int 0])), (q14, .inr (2, [.null, .null, .int 0, .int 0, .int 0, .int 0, .int 0, .int 0]))] H := hP
  have hD : va_D A [(h0, .inr (6, [.ref q1, .int 0, .ref q3, .ref q6, .ref q9, .ref q10, .ref q12, .null, .null, .int 0, .int 0, .null])), (q1, .inl (k2, 400, .inl (fun _ => 0))), (q3, .inr (1, [.ref q4, .ref q5, .int 0, .int 0, .int 0])), (q6, .inr (1, [.ref q7, .ref q8, .int 0, .int 0, .int 0])), (q9, .inr (4, [.ref q1, .int 0, .int 0, .int 0, .int 0, .int 0])), (q10, .inr (5, [.ref q3, .ref q11, .int 0, .int (-1), .int 0, .int 0, .int 0, .int 0, .int 0])), (q12, .inr (3, [.int 0, .int 0, .ref q13, .int 0, .int 0, .int 0, .int 0, .int 0])), (q14, .inr (2, [.null, .null, .int 0, .int 0, .int 0, .int 0, .int 0, .int 0]))] := hD
  refine W.widen (k := 85) (n := 3015) (Nat.le_of_ble_eq_true rfl) (Nat.le_of_ble_eq_true rfl) ?_
  refine lv_dup hx hb dX6_init_85 rfl ?_
  have hPc := hP.sub (ws' := [(q14, .inr (2, [.null, .null, .int 0, .int 0, .int 0, .int 0, .int 0, .int 0]))]) [7] rfl
  have hDc := hD.sub (ws' := [(q14, .inr (2, [.null, .null, .int 0, .int 0, .int 0, .int 0, .int 0, .int 0]))]) [7] (by decide) rfl
  have hKc := hK.sub (tys' := []) [] rfl
  have hFc := va_free (wc := [(q14, .inr (2, [.null, .null, .int 0, .int 0, .int 0, .int 0, .int 0, .int 0]))]) hD hS hA [7] rfl
  refine va_callv (va_runIN (As := []) (rest := [.ref q14, .ref h0]) ⟨hx, hb, hml, hown, hts⟩ (c_X2_init l dC dI q14 H.size  ) ⟨va_cnB 0 hts (gI pq313) rfl rfl rfl (xN_X6_54 hN) (hts _ pq80) (by decide +kernel) ⟨(Nat.le_of_ble_eq_true rfl), (Nat.le_of_ble_eq_true rfl)⟩, rfl, hts _ pq312⟩ (pc_S hPc hDc hKc hN) rfl rfl hl.1 rfl (lv_room (Nat.le_of_ble_eq_true rfl)) dX6_init_86 ⟨(Nat.le_of_ble_eq_true rfl), (Nat.le_of_ble_eq_true rfl)⟩) hS (fun q _ h => hFc q h) hFc (fun u t H1 locs ht hvm hw hB hz1 hk1 hS => ?_)
  obtain ⟨hP, hD⟩ := va_join (wr := [(h0, .inr (6, [.ref q1, .int 0, .ref q3, .ref q6, .ref q9, .ref q10, .ref q12, .null, .null, .int 0, .int 0, .null])), (q1, .inl (k2, 400, .inl (fun _ => 0))), (q3, .inr (1, [.ref q4, .ref q5, .int 0, .int 0, .int 0])), (q6, .inr (1, [.ref q7, .ref q8, .int 0, .int 0, .int 0])), (q9, .inr (4, [.ref q1, .int 0, .int 0, .int 0, .int 0, .int 0])), (q10, .inr (5, [.ref q3, .ref q11, .int 0, .int (-1), .int 0, .int 0, .int 0, .int 0, .int 0])), (q12, .inr (3, [.int 0, .int 0, .ref q13, .int 0, .int 0, .int 0, .int 0, .int 0]))]) (w1 := []) hP hD [7] [0, 1, 2, 3, 4, 5, 6] rfl rfl (by decide) (by decide) hk1 hFc va_P0 va_D0
  generalize H1 = H at hP hS ⊢
  have hP : va_P (dC, dI) vwCl [(h0, .inr (6, [.ref q1, .int 0, .ref q3, .ref q6, .ref q9, .ref q10, .ref q12, .null, .null, .int 0, .int 0, .null])), (q1, .inl (k2, 400, .inl (fun _ => 0))), (q3, .inr (1, [.ref q4, .ref q5, .int 0, .int 0, .int 0])), (q6, .inr (1, [.ref q7, .ref q8, .int 0, .int 0, .int 0])), (q9, .inr (4, [.ref q1, .int 0, .int 0, .int 0, .int 0, .int 0])), (q10, .inr (5, [.ref q3, .ref q11, .int 0, .int (-1), .int 0, .int 0, .int 0, .int 0, .int 0])), (q12, .inr (3, [.int 0, .int 0, .ref q13, .int 0, .int 0, .int 0, .int 0, .int 0]))] H := hP
  have hD : va_D A [(h0, .inr (6, [.ref q1, .int 0, .ref q3, .ref q6, .ref q9, .ref q10, .ref q12, .null, .null, .int 0, .int 0, .null])), (q1, .inl (k2, 400, .inl (fun _ => 0))), (q3, .inr (1, [.ref q4, .ref q5, .int 0, .int 0, .int 0])), (q6, .inr (1, [.ref q7, .ref q8, .int 0, .int 0, .int 0])), (q9, .inr (4, [.ref q1, .int 0, .int 0, .int 0, .int 0, .int 0])), (q10, .inr (5, [.ref q3, .ref q11, .int 0, .int (-1), .int 0, .int 0, .int 0, .int 0, .int 0])), (q12, .inr (3, [.int 0, .int 0, .ref q13, .int 0, .int 0, .int 0, .int 0, .int 0]))] := hD
  refine W.widen (k := 88) (n := 7103) (Nat.le_of_ble_eq_true rfl) (Nat.le_of_ble_eq_true rfl) ?_
  refine va_putF (D := (dC, dI)) (ci := 6) (v := .ref q14) (ty := tyX6 7) (C := RX6) (T := TX6) (N := 12) hx hb hts inX6 tyX6 tyX6_ok nmX6 hown hK hP hD hS 0 rfl rfl 7 (by decide) (hts _ pq356) (fun _ h9 => h9) rfl hin rfl (by decide +kernel) rfl rfl (Nat.le_of_ble_eq_true rfl) dX6_init_89 (fun H locs hP hD hS => ?_)
  have hP : va_P (dC, dI) vwCl [(h0, .inr (6, [.ref q1, .int 0, .ref q3, .ref q6, .ref q9, .ref q10, .ref q12, .ref q14, .null, .int 0, .int 0, .null])), (q1, .inl (k2, 400, .inl (fun _ => 0))), (q3, .inr (1, [.ref q4, .ref q5, .int 0, .int 0, .int 0])), (q6, .inr (1, [.ref q7, .ref q8, .int 0, .int 0, .int 0])), (q9, .inr (4, [.ref q1, .int 0, .int 0, .int 0, .int 0, .int 0])), (q10, .inr (5, [.ref q3, .ref q11, .int 0, .int (-1), .int 0, .int 0, .int 0, .int 0, .int 0])), (q12, .inr (3, [.int 0, .int 0, .ref q13, .int 0, .int 0, .int 0, .int 0, .int 0]))] H := hP
  have hD : va_D A [(h0, .inr (6, [.ref q1, .int 0, .ref q3, .ref q6, .ref q9, .ref q10, .ref q12, .ref q14, .null, .int 0, .int 0, .null])), (q1, .inl (k2, 400, .inl (fun _ => 0))), (q3, .inr (1, [.ref q4, .ref q5, .int 0, .int 0, .int 0])), (q6, .inr (1, [.ref q7, .ref q8, .int 0, .int 0, .int 0])), (q9, .inr (4, [.ref q1, .int 0, .int 0, .int 0, .int 0, .int 0])), (q10, .inr (5, [.ref q3, .ref q11, .int 0, .int (-1), .int 0, .int 0, .int 0, .int 0, .int 0])), (q12, .inr (3, [.int 0, .int 0, .ref q13, .int 0, .int 0, .int 0, .int 0, .int 0]))] := hD
  have hP := hP.sub (ws' := [(h0, .inr (6, [.ref q1, .int 0, .ref q3, .ref q6, .ref q9, .ref q10, .ref q12, .ref q14, .null, .int 0, .int 0, .null])), (q1, .inl (k2, 400, .inl (fun _ => 0))), (q3, .inr (1, [.ref q4, .ref q5, .int 0, .int 0, .int 0])), (q6, .inr (1, [.ref q7, .ref q8, .int 0, .int 0, .int 0])), (q9, .inr (4, [.ref q1, .int 0, .int 0, .int 0, .int 0, .int 0])), (q10, .inr (5, [.ref q3, .ref q11, .int 0, .int (-1), .int 0, .int 0, .int 0, .int 0, .int 0]))]) [0, 1, 2, 3, 4, 5] rfl
  have hD := hD.sub (ws' := [(h0, .inr (6, [.ref q1, .int 0, .ref q3, .ref q6, .ref q9, .ref q10, .ref q12, .ref q14, .null, .int 0, .int 0, .null])), (q1, .inl (k2, 400, .inl (fun _ => 0))), (q3, .inr (1, [.ref q4, .ref q5, .int 0, .int 0, .int 0])), (q6, .inr (1, [.ref q7, .ref q8, .int 0, .int 0, .int 0])), (q9, .inr (4, [.ref q1, .int 0, .int 0, .int 0, .int 0, .int 0])), (q10, .inr (5, [.ref q3, .ref q11, .int 0, .int (-1), .int 0, .int 0, .int 0, .int 0, .int 0]))]) [0, 1, 2, 3, 4, 5] (by decide) rfl
  refine lv_aload_n hx hb dX6_init_92 rfl (lv_at hl 0 rfl) ?_
  refine lv_bipush (v := 10) hx hb dX6_init_93 (by decide +kernel) ?_
  refine va_newq (C := RX1) (n := 10) (N' := 10) hx hb hown (hts _ pq101) (xN_aoX1 hN) hK hP hD hS hA (by decide +kernel) (by decide +kernel) (Nat.le_of_ble_eq_true rfl) (Nat.le_of_ble_eq_true rfl) (Nat.le_of_ble_eq_true rfl) dX6_init_95 (fun q15 k16 H hK hP hD hS => ?_)
  have hP : va_P (dC, dI) vwCl [(h0, .inr (6, [.ref q1, .int 0, .ref q3, .ref q6, .ref q9, .ref q10, .ref q12, .ref q14, .null, .int 0, .int 0, .null])), (q1, .inl (k2, 400, .inl (fun _ => 0))), (q3, .inr (1, [.ref q4, .ref q5, .int 0, .int 0, .int 0])), (q6, .inr (1, [.ref q7, .ref q8, .int 0, .int 0, .int 0])), (q9, .inr (4, [.ref q1, .int 0, .int 0, .int 0, .int 0, .int 0])), (q10, .inr (5, [.ref q3, .ref q11, .int 0, .int (-1), .int 0, .int 0, .int 0, .int 0, .int 0])), (q15, .inl (k16, 10, .inr (.inr (.inr (.inr (fun _ => none))))))] H := hP
  have hD : va_D A [(h0, .inr (6, [.ref q1, .int 0, .ref q3, .ref q6, .ref q9, .ref q10, .ref q12, .ref q14, .null, .int 0, .int 0, .null])), (q1, .inl (k2, 400, .inl (fun _ => 0))), (q3, .inr (1, [.ref q4, .ref q5, .int 0, .int 0, .int 0])), (q6, .inr (1, [.ref q7, .ref q8, .int 0, .int 0, .int 0])), (q9, .inr (4, [.ref q1, .int 0, .int 0, .int 0, .int 0, .int 0])), (q10, .inr (5, [.ref q3, .ref q11, .int 0, .int (-1), .int 0, .int 0, .int 0, .int 0, .int 0])), (q15, .inl (k16, 10, .inr (.inr (.inr (.inr (fun _ => none))))))] := hD
  have hK : va_K (dC, dI) vwCl [(k2, .byte), (k16, .object RX1)] s := hK
  refine W.widen (k := 89) (n := 7113) (Nat.le_of_ble_eq_true rfl) (Nat.le_of_ble_eq_true rfl) ?_
  refine va_putF (D := (dC, dI)) (ci := 6) (v := .ref q15) (ty := tyX6 8) (C := RX6) (T := TX6) (N := 12) hx hb hts inX6 tyX6 tyX6_ok nmX6 hown hK hP hD hS 0 rfl rfl 8 (by decide) (hts _ pq357) (fun _ h9 => h9) rfl hin rfl (by decide +kernel) rfl rfl (Nat.le_of_ble_eq_true rfl) dX6_init_98 (fun H locs hP hD hS => ?_)
  have hP : va_P (dC, dI) vwCl [(h0, .inr (6, [.ref q1, .int 0, .ref q3, .ref q6, .ref q9, .ref q10, .ref q12, .ref q14, .ref q15, .int 0, .int 0, .null])), (q1, .inl (k2, 400, .inl (fun _ => 0))), (q3, .inr (1, [.ref q4, .ref q5, .int 0, .int 0, .int 0])), (q6, .inr (1, [.ref q7, .ref q8, .int 0, .int 0, .int 0])), (q9, .inr (4, [.ref q1, .int 0, .int 0, .int 0, .int 0, .int 0])), (q10, .inr (5, [.ref q3, .ref q11, .int 0, .int (-1), .int 0, .int 0, .int 0, .int 0, .int 0])), (q15, .inl (k16, 10, .inr (.inr (.inr (.inr (fun _ => none))))))] H := hP
  have hD : va_D A [(h0, .inr (6, [.ref q1, .int 0, .ref q3, .ref q6, .ref q9, .ref q10, .ref q12, .ref q14, .ref q15, .int 0, .int 0, .null])), (q1, .inl (k2, 400, .inl (fun _ => 0))), (q3, .inr (1, [.ref q4, .ref q5, .int 0, .int 0, .int 0])), (q6, .inr (1, [.ref q7, .ref q8, .int 0, .int 0, .int 0])), (q9, .inr (4, [.ref q1, .int 0, .int 0, .int 0, .int 0, .int 0])), (q10, .inr (5, [.ref q3, .ref q11, .int 0, .int (-1), .int 0, .int 0, .int 0, .int 0, .int 0])), (q15, .inl (k16, 10, .inr (.inr (.inr (.inr (fun _ => none))))))] := hD
  refine lv_aload_n hx hb dX6_init_101 rfl (lv_at hl 0 rfl) ?_
  refine lv_iconst (v := 0) hx hb dX6_init_102 (by decide +kernel) ?_
  refine va_put (D := (dC, dI)) (ci := 6) (v := .int 0) (ty := tyX6 9) (C := RX6) (T := TX6) (N := 12) hx hb hts inX6 tyX6 tyX6_ok nmX6 hown hK hP hD hS 0 rfl rfl 9 (by decide) (hts _ pq358) (fun _ h9 => h9) rfl (by decide +kernel) rfl rfl (Nat.le_of_ble_eq_true rfl) dX6_init_103 (fun H locs hP hD hS => ?_)
  have hP : va_P (dC, dI) vwCl [(h0, .inr (6, [.ref q1, .int 0, .ref q3, .ref q6, .ref q9, .ref q10, .ref q12, .ref q14, .ref q15, .int 0, .int 0, .null])), (q1, .inl (k2, 400, .inl (fun _ => 0))), (q3, .inr (1, [.ref q4, .ref q5, .int 0, .int 0, .int 0])), (q6, .inr (1, [.ref q7, .ref q8, .int 0, .int 0, .int 0])), (q9, .inr (4, [.ref q1, .int 0, .int 0, .int 0, .int 0, .int 0])), (q10, .inr (5, [.ref q3, .ref q11, .int 0, .int (-1), .int 0, .int 0, .int 0, .int 0, .int 0])), (q15, .inl (k16, 10, .inr (.inr (.inr (.inr (fun _ => none))))))] H := hP
  have hD : va_D A [(h0, .inr (6, [.ref q1, .int 0, .ref q3, .ref q6, .ref q9, .ref q10, .ref q12, .ref q14, .ref q15, .int 0, .int 0, .null])), (q1, .inl (k2, 400, .inl (fun _ => 0))), (q3, .inr (1, [.ref q4, .ref q5, .int 0, .int 0, .int 0])), (q6, .inr (1, [.ref q7, .ref q8, .int 0, .int 0, .int 0])), (q9, .inr (4, [.ref q1, .int 0, .int 0, .int 0, .int 0, .int 0])), (q10, .inr (5, [.ref q3, .ref q11, .int 0, .int (-1), .int 0, .int 0, .int 0, .int 0, .int 0])), (q15, .inl (k16, 10, .inr (.inr (.inr (.inr (fun _ => none))))))] := hD
  refine lv_aload_n hx hb dX6_init_106 rfl (lv_at hl 0 rfl) ?_
  refine lv_iconst (v := 0) hx hb dX6_init_107 (by decide +kernel) ?_
  refine va_put (D := (dC, dI)) (ci := 6) (v := .int 0) (ty := tyX6 10) (C := RX6) (T := TX6) (N := 12) hx hb hts inX6 tyX6 tyX6_ok nmX6 hown hK hP hD hS 0 rfl rfl 10 (by decide) (hts _ pq359) (fun _ h9 => h9) rfl (by decide +kernel) rfl rfl (Nat.le_of_ble_eq_true rfl) dX6_init_108 (fun H locs hP hD hS => ?_)
  have hP : va_P (dC, dI) vwCl [(h0, .inr (6, [.ref q1, .int 0, .ref q3, .ref q6, .ref q9, .ref q10, .ref q12, .ref q14, .ref q15, .int 0, .int 0, .null])), (q1, .inl (k2, 400, .inl (fun _ => 0))), (q3, .inr (1, [.ref q4, .ref q5, .int 0, .int 0, .int 0])), (q6, .inr (1, [.ref q7, .ref q8, .int 0, .int 0, .int 0])), (q9, .inr (4, [.ref q1, .int 0, .int 0, .int 0, .int 0, .int 0])), (q10, .inr (5, [.ref q3, .ref q11, .int 0, .int (-1), .int 0, .int 0, .int 0, .int 0, .int 0])), (q15, .inl (k16, 10, .inr (.inr (.inr (.inr (fun _ => none))))))] H := hP
  have hD : va_D A [(h0, .inr (6, [.ref q1, .int 0, .ref q3, .ref q6, .ref q9, .ref q10, .ref q12, .ref q14, .ref q15, .int 0, .int 0, .null])), (q1, .inl (k2, 400, .inl (fun _ => 0))), (q3, .inr (1, [.ref q4, .ref q5, .int 0, .int 0, .int 0])), (q6, .inr (1, [.ref q7, .ref q8, .int 0, .int 0, .int 0])), (q9, .inr (4, [.ref q1, .int 0, .int 0, .int 0, .int 0, .int 0])), (q10, .inr (5, [.ref q3, .ref q11, .int 0, .int (-1), .int 0, .int 0, .int 0, .int 0, .int 0])), (q15, .inl (k16, 10, .inr (.inr (.inr (.inr (fun _ => none))))))] := hD
  refine lv_aload_n hx hb dX6_init_111 rfl (lv_at hl 0 rfl) ?_
  refine lv_iconst (v := 2) hx hb dX6_init_112 (by decide +kernel) ?_
  refine va_newq (C := RX1) (n := 2) (N' := 2) hx hb hown (hts _ pq101) (xN_aoX1 hN) hK hP hD hS hA (by decide +kernel) (by decide +kernel) (Nat.le_of_ble_eq_true rfl) (Nat.le_of_ble_eq_true rfl) (Nat.le_of_ble_eq_true rfl) dX6_init_113 (fun q17 k18 H hK hP hD hS => ?_)
  have hP : va_P (dC, dI) vwCl [(h0, .inr (6, [.ref q1, .int 0, .ref q3, .ref q6, .ref q9, .ref q10, .ref q12, .ref q14, .ref q15, .int 0, .int 0, .null])), (q1, .inl (k2, 400, .inl (fun _ => 0))), (q3, .inr (1, [.ref q4, .ref q5, .int 0, .int 0, .int 0])), (q6, .inr (1, [.ref q7, .ref q8, .int 0, .int 0, .int 0])), (q9, .inr (4, [.ref q1, .int 0, .int 0, .int 0, .int 0, .int 0])), (q10, .inr (5, [.ref q3, .ref q11, .int 0, .int (-1), .int 0, .int 0, .int 0, .int 0, .int 0])), (q15, .inl (k16, 10, .inr (.inr (.inr (.inr (fun _ => none)))))), (q17, .inl (k18, 2, .inr (.inr (.inr (.inr (fun _ => none))))))] H := hP
  have hD : va_D A [(h0, .inr (6, [.ref q1, .int 0, .ref q3, .ref q6, .ref q9, .ref q10, .ref q12, .ref q14, .ref q15, .int 0, .int 0, .null])), (q1, .inl (k2, 400, .inl (fun _ => 0))), (q3, .inr (1, [.ref q4, .ref q5, .int 0, .int 0, .int 0])), (q6, .inr (1, [.ref q7, .ref q8, .int 0, .int 0, .int 0])), (q9, .inr (4, [.ref q1, .int 0, .int 0, .int 0, .int 0, .int 0])), (q10, .inr (5, [.ref q3, .ref q11, .int 0, .int (-1), .int 0, .int 0, .int 0, .int 0, .int 0])), (q15, .inl (k16, 10, .inr (.inr (.inr (.inr (fun _ => none)))))), (q17, .inl (k18, 2, .inr (.inr (.inr (.inr (fun _ => none))))))] := hD
  have hK : va_K (dC, dI) vwCl [(k2, .byte), (k16, .object RX1), (k18, .object RX1)] s := hK
  refine W.widen (k := 90) (n := 7115) (Nat.le_of_ble_eq_true rfl) (Nat.le_of_ble_eq_true rfl) ?_
  refine va_putF (D := (dC, dI)) (ci := 6) (v := .ref q17) (ty := tyX6 11) (C := RX6) (T := TX6) (N := 12) hx hb hts inX6 tyX6 tyX6_ok nmX6 hown hK hP hD hS 0 rfl rfl 11 (by decide) (hts _ pq360) (fun _ h9 => h9) rfl hin rfl (by decide +kernel) rfl rfl (Nat.le_of_ble_eq_true rfl) dX6_init_116 (fun H locs hP hD hS => ?_)
  have hP : va_P (dC, dI) vwCl [(h0, .inr (6, [.ref q1, .int 0, .ref q3, .ref q6, .ref q9, .ref q10, .ref q12, .ref q14, .ref q15, .int 0, .int 0, .ref q17])), (q1, .inl (k2, 400, .inl (fun _ => 0))), (q3, .inr (1, [.ref q4, .ref q5, .int 0, .int 0, .int 0])), (q6, .inr (1, [.ref q7, .ref q8, .int 0, .int 0, .int 0])), (q9, .inr (4, [.ref q1, .int 0, .int 0, .int 0, .int 0, .int 0])), (q10, .inr (5, [.ref q3, .ref q11, .int 0, .int (-1), .int 0, .int 0, .int 0, .int 0, .int 0])), (q15, .inl (k16, 10, .inr (.inr (.inr (.inr (fun _ => none)))))), (q17, .inl (k18, 2, .inr (.inr (.inr (.inr (fun _ => none))))))] H := hP
  have hD : va_D A [(h0, .inr (6, [.ref q1, .int 0, .ref q3, .ref q6, .ref q9, .ref q10, .ref q12, .ref q14, .ref q15, .int 0, .int 0, .ref q17])), (q1, .inl (k2, 400, .inl (fun _ => 0))), (q3, .inr (1, [.ref q4, .ref q5, .int 0, .int 0, .int 0])), (q6, .inr (1, [.ref q7, .ref q8, .int 0, .int 0, .int 0])), (q9, .inr (4, [.ref q1, .int 0, .int 0, .int 0, .int 0, .int 0])), (q10, .inr (5, [.ref q3, .ref q11, .int 0, .int (-1), .int 0, .int 0, .int 0, .int 0, .int 0])), (q15, .inl (k16, 10, .inr (.inr (.inr (.inr (fun _ => none)))))), (q17, .inl (k18, 2, .inr (.inr (.inr (.inr (fun _ => none))))))] := hD
  have hP9 := hP.sub (ws' := [(h0, .inr (6, [.ref q1, .int 0, .ref q3, .ref q6, .ref q9, .ref q10, .ref q12, .ref q14, .ref q15, .int 0, .int 0, .ref q17])), (q1, .inl (k2, 400, .inl (fun _ => 0))), (q3, .inr (1, [.ref q4, .ref q5, .int 0, .int 0, .int 0])), (q6, .inr (1, [.ref q7, .ref q8, .int 0, .int 0, .int 0])), (q9, .inr (4, [.ref q1, .int 0, .int 0, .int 0, .int 0, .int 0])), (q10, .inr (5, [.ref q3, .ref q11, .int 0, .int (-1), .int 0, .int 0, .int 0, .int 0, .int 0])), (q15, .inl (k16, 10, .inr (.inr (.inr (.inr (fun _ => none)))))), (q17, .inl (k18, 2, .inr (.inr (.inr (.inr (fun _ => none))))))]) [0, 1, 2, 3, 4, 5, 6, 7] rfl
  have hD9 := hD.sub (ws' := [(h0, .inr (6, [.ref q1, .int 0, .ref q3, .ref q6, .ref q9, .ref q10, .ref q12, .ref q14, .ref q15, .int 0, .int 0, .ref q17])), (q1, .inl (k2, 400, .inl (fun _ => 0))), (q3, .inr (1, [.ref q4, .ref q5, .int 0, .int 0, .int 0])), (q6, .inr (1, [.ref q7, .ref q8, .int 0, .int 0, .int 0])), (q9, .inr (4, [.ref q1, .int 0, .int 0, .int 0, .int 0, .int 0])), (q10, .inr (5, [.ref q3, .ref q11, .int 0, .int (-1), .int 0, .int 0, .int 0, .int 0, .int 0])), (q15, .inl (k16, 10, .inr (.inr (.inr (.inr (fun _ => none)))))), (q17, .inl (k18, 2, .inr (.inr (.inr (.inr (fun _ => none))))))]) [0, 1, 2, 3, 4, 5, 6, 7] (by decide) rfl
  have hK9 := hK.sub (tys' := [(k2, .byte), (k16, .object RX1), (k18, .object RX1)]) [0, 1, 2] rfl
  exact W.vret hx hb hr (fun t ht hW => ⟨⟨(), rfl, trivial, ⟨q1, q3, q6, q9, q10, q12, q14, q15, q17, q4, q5, q7, q8, q11, k2, k16, k18, by rw [ht]; exact hP9, va_K.moved hW.alike hK9, hD9⟩⟩, hS.F ht⟩) hS.2.2 dX6_init_119
end
section
abbrev cX7_init : ByteArray := prog_9_method_1_code
def yX7_init : MethodName := ⟨RX7, "<init>", "()V"⟩
theorem dX7_init_0 : decode cX7_init 0 = .ok (.aload_n 0, 1) := by decide +kernel
theorem dX7_init_1 : decode cX7_init 1 = .ok (.invokespecial 3, 3) := by decide +kernel
theorem dX7_init_4 : decode cX7_init 4 = .ok (.aload_n 0, 1) := by decide +kernel
theorem dX7_init_5 : decode cX7_init 5 = .ok (.bipush 99, 2) := by decide +kernel
theorem dX7_init_7 : decode cX7_init 7 = .ok (.newarray .int, 2) := by decide +kernel
theorem dX7_init_9 : decode cX7_init 9 = .ok (.putfield 9, 3) := by decide +kernel
theorem dX7_init_12 : decode cX7_init 12 = .ok (.aload_n 0, 1) := by decide +kernel
theorem dX7_init_13 : decode cX7_init 13 = .ok (.bipush 99, 2) := by decide +kernel
theorem dX7_init_15 : decode cX7_init 15 = .ok (.newarray .int, 2) := by decide +kernel
theorem dX7_init_17 : decode cX7_init 17 = .ok (.putfield 13, 3) := by decide +kernel
theorem dX7_init_20 : decode cX7_init 20 = .ok (.aload_n 0, 1) := by decide +kernel
theorem dX7_init_21 : decode cX7_init 21 = .ok (.bipush 99, 2) := by decide +kernel
theorem dX7_init_23 : decode cX7_init 23 = .ok (.newarray .int, 2) := by decide +kernel
theorem dX7_init_25 : decode cX7_init 25 = .ok (.putfield 16, 3) := by decide +kernel
theorem dX7_init_28 : decode cX7_init 28 = .ok (.aload_n 0, 1) := by decide +kernel
theorem dX7_init_29 : decode cX7_init 29 = .ok (.sipush 990, 3) := by decide +kernel
theorem dX7_init_32 : decode cX7_init 32 = .ok (.newarray .int, 2) := by decide +kernel
theorem dX7_init_34 : decode cX7_init 34 = .ok (.putfield 19, 3) := by decide +kernel
theorem dX7_init_37 : decode cX7_init 37 = .ok (.aload_n 0, 1) := by decide +kernel
theorem dX7_init_38 : decode cX7_init 38 = .ok (.sipush 198, 3) := by decide +kernel
theorem dX7_init_41 : decode cX7_init 41 = .ok (.newarray .int, 2) := by decide +kernel
theorem dX7_init_43 : decode cX7_init 43 = .ok (.putfield 22, 3) := by decide +kernel
theorem dX7_init_46 : decode cX7_init 46 = .ok (.aload_n 0, 1) := by decide +kernel
theorem dX7_init_47 : decode cX7_init 47 = .ok (.sipush 640, 3) := by decide +kernel
theorem dX7_init_50 : decode cX7_init 50 = .ok (.newarray .long, 2) := by decide +kernel
theorem dX7_init_52 : decode cX7_init 52 = .ok (.putfield 25, 3) := by decide +kernel
theorem dX7_init_55 : decode cX7_init 55 = .ok (.aload_n 0, 1) := by decide +kernel
theorem dX7_init_56 : decode cX7_init 56 = .ok (.sipush 640, 3) := by decide +kernel
theorem dX7_init_59 : decode cX7_init 59 = .ok (.newarray .long, 2) := by decide +kernel
theorem dX7_init_61 : decode cX7_init 61 = .ok (.putfield 29, 3) := by decide +kernel
theorem dX7_init_64 : decode cX7_init 64 = .ok (.aload_n 0, 1) := by decide +kernel
theorem dX7_init_65 : decode cX7_init 65 = .ok (.sipush 640, 3) := by decide +kernel
theorem dX7_init_68 : decode cX7_init 68 = .ok (.newarray .long, 2) := by decide +kernel
theorem dX7_init_70 : decode cX7_init 70 = .ok (.putfield 32, 3) := by decide +kernel
theorem dX7_init_73 : decode cX7_init 73 = .ok (.aload_n 0, 1) := by decide +kernel
theorem dX7_init_74 : decode cX7_init 74 = .ok (.sipush 6400, 3) := by decide +kernel
theorem dX7_init_77 : decode cX7_init 77 = .ok (.newarray .long, 2) := by decide +kernel
theorem dX7_init_79 : decode cX7_init 79 = .ok (.putfield 35, 3) := by decide +kernel
theorem dX7_init_82 : decode cX7_init 82 = .ok (.aload_n 0, 1) := by decide +kernel
theorem dX7_init_83 : decode cX7_init 83 = .ok (.sipush 1280, 3) := by decide +kernel
theorem dX7_init_86 : decode cX7_init 86 = .ok (.newarray .long, 2) := by decide +kernel
theorem dX7_init_88 : decode cX7_init 88 = .ok (.putfield 38, 3) := by decide +kernel
theorem dX7_init_91 : decode cX7_init 91 = .ok (.aload_n 0, 1) := by decide +kernel
theorem dX7_init_92 : decode cX7_init 92 = .ok (.iconst 2, 1) := by decide +kernel
theorem dX7_init_93 : decode cX7_init 93 = .ok (.newarray .boolean, 2) := by decide +kernel
theorem dX7_init_95 : decode cX7_init 95 = .ok (.putfield 41, 3) := by decide +kernel
theorem dX7_init_98 : decode cX7_init 98 = .ok (.aload_n 0, 1) := by decide +kernel
theorem dX7_init_99 : decode cX7_init 99 = .ok (.sipush 400, 3) := by decide +kernel
theorem dX7_init_102 : decode cX7_init 102 = .ok (.newarray .byte, 2) := by decide +kernel
theorem dX7_init_104 : decode cX7_init 104 = .ok (.putfield 45, 3) := by decide +kernel
theorem dX7_init_107 : decode cX7_init 107 = .ok (.aload_n 0, 1) := by decide +kernel
theorem dX7_init_108 : decode cX7_init 108 = .ok (.sipush 800, 3) := by decide +kernel
theorem dX7_init_111 : decode cX7_init 111 = .ok (.newarray .long, 2) := by decide +kernel
theorem dX7_init_113 : decode cX7_init 113 = .ok (.putfield 49, 3) := by decide +kernel
theorem dX7_init_116 : decode cX7_init 116 = .ok (.aload_n 0, 1) := by decide +kernel
theorem dX7_init_117 : decode cX7_init 117 = .ok (.bipush 80, 2) := by decide +kernel
theorem dX7_init_119 : decode cX7_init 119 = .ok (.newarray .long, 2) := by decide +kernel
theorem dX7_init_121 : decode cX7_init 121 = .ok (.putfield 52, 3) := by decide +kernel
theorem dX7_init_124 : decode cX7_init 124 = .ok (.aload_n 0, 1) := by decide +kernel
theorem dX7_init_125 : decode cX7_init 125 = .ok (.iconst 4, 1) := by decide +kernel
theorem dX7_init_126 : decode cX7_init 126 = .ok (.newarray .int, 2) := by decide +kernel
theorem dX7_init_128 : decode cX7_init 128 = .ok (.putfield 55, 3) := by decide +kernel
theorem dX7_init_131 : decode cX7_init 131 = .ok (.aload_n 0, 1) := by decide +kernel
theorem dX7_init_132 : decode cX7_init 132 = .ok (.sipush 4000, 3) := by decide +kernel
theorem dX7_init_135 : decode cX7_init 135 = .ok (.newarray .int, 2) := by decide +kernel
theorem dX7_init_137 : decode cX7_init 137 = .ok (.putfield 58, 3) := by decide +kernel
theorem dX7_init_140 : decode cX7_init 140 = .ok (.aload_n 0, 1) := by decide +kernel
theorem dX7_init_141 : decode cX7_init 141 = .ok (.sipush 4000, 3) := by decide +kernel
theorem dX7_init_144 : decode cX7_init 144 = .ok (.newarray .int, 2) := by decide +kernel
theorem dX7_init_146 : decode cX7_init 146 = .ok (.putfield 61, 3) := by decide +kernel
theorem dX7_init_149 : decode cX7_init 149 = .ok (.aload_n 0, 1) := by decide +kernel
theorem dX7_init_150 : decode cX7_init 150 = .ok (.iconst 4, 1) := by decide +kernel
theorem dX7_init_151 : decode cX7_init 151 = .ok (.newarray .int, 2) := by decide +kernel
theorem dX7_init_153 : decode cX7_init 153 = .ok (.putfield 64, 3) := by decide +kernel
theorem dX7_init_156 : decode cX7_init 156 = .ok (.return_, 1) := by decide +kernel
set_option maxRecDepth 100000 in
theorem pq1114 : Cond.methodLink RX7 3 objectInit ∈ pw := pw_mem (i := 1114) (by decide +kernel) rfl
set_option maxRecDepth 100000 in
theorem pq1115 : Cond.fieldLink RX7 9 "MaskTouchModel" "now" "[I" ∈ pw := pw_mem (i := 1115) (by decide +kernel) rfl
set_option maxRecDepth 100000 in
theorem pq1116 : Cond.fieldLink RX7 13 "MaskTouchModel" "heard" "[I" ∈ pw := pw_mem (i := 1116) (by decide +kernel) rfl
set_option maxRecDepth 100000 in
theorem pq1117 : Cond.fieldLink RX7 16 "MaskTouchModel" "aside" "[I" ∈ pw := pw_mem (i := 1117) (by decide +kernel) rfl
set_option maxRecDepth 100000 in
theorem pq1118 : Cond.fieldLink RX7 19 "MaskTouchModel" "past" "[I" ∈ pw := pw_mem (i := 1118) (by decide +kernel) rfl
set_option maxRecDepth 100000 in
theorem pq1119 : Cond.fieldLink RX7 22 "MaskTouchModel" "shelf" "[I" ∈ pw := pw_mem (i := 1119) (by decide +kernel) rfl
set_option maxRecDepth 100000 in
theorem pq1120 : Cond.fieldLink RX7 25 "MaskTouchModel" "dots" "[J" ∈ pw := pw_mem (i := 1120) (by decide +kernel) rfl
set_option maxRecDepth 100000 in
theorem pq1121 : Cond.fieldLink RX7 29 "MaskTouchModel" "heardDots" "[J" ∈ pw := pw_mem (i := 1121) (by decide +kernel) rfl
set_option maxRecDepth 100000 in
theorem pq1122 : Cond.fieldLink RX7 32 "MaskTouchModel" "asideDots" "[J" ∈ pw := pw_mem (i := 1122) (by decide +kernel) rfl
set_option maxRecDepth 100000 in
theorem pq1123 : Cond.fieldLink RX7 35 "MaskTouchModel" "pastDots" "[J" ∈ pw := pw_mem (i := 1123) (by decide +kernel) rfl
set_option maxRecDepth 100000 in
theorem pq1124 : Cond.fieldLink RX7 38 "MaskTouchModel" "shelfDots" "[J" ∈ pw := pw_mem (i := 1124) (by decide +kernel) rfl
set_option maxRecDepth 100000 in
theorem pq1125 : Cond.fieldLink RX7 41 "MaskTouchModel" "isKept" "[Z" ∈ pw := pw_mem (i := 1125) (by decide +kernel) rfl
set_option maxRecDepth 100000 in
theorem pq1127 : Cond.fieldLink RX7 45 "MaskTouchModel" "tape" "[B" ∈ pw := pw_mem (i := 1127) (by decide +kernel) rfl
set_option maxRecDepth 100000 in
theorem pq1132 : Cond.fieldLink RX7 49 "MaskTouchModel" "laid" "[J" ∈ pw := pw_mem (i := 1132) (by decide +kernel) rfl
set_option maxRecDepth 100000 in
theorem pq1134 : Cond.fieldLink RX7 52 "MaskTouchModel" "made" "[J" ∈ pw := pw_mem (i := 1134) (by decide +kernel) rfl
set_option maxRecDepth 100000 in
theorem pq1135 : Cond.fieldLink RX7 55 "MaskTouchModel" "ends" "[I" ∈ pw := pw_mem (i := 1135) (by decide +kernel) rfl
set_option maxRecDepth 100000 in
theorem pq1136 : Cond.fieldLink RX7 58 "MaskTouchModel" "island" "[I" ∈ pw := pw_mem (i := 1136) (by decide +kernel) rfl
set_option maxRecDepth 100000 in
theorem pq1137 : Cond.fieldLink RX7 61 "MaskTouchModel" "queue" "[I" ∈ pw := pw_mem (i := 1137) (by decide +kernel) rfl
set_option maxRecDepth 100000 in
theorem pq1140 : Cond.fieldLink RX7 64 "MaskTouchModel" "box" "[I" ∈ pw := pw_mem (i := 1140) (by decide +kernel) rfl
set_option maxRecDepth 100000 in
theorem pq1194 : Cond.arrayClass .boolean ∈ pw := pw_mem (i := 1194) (by decide +kernel) rfl
set_option maxHeartbeats 4000000 in
set_option maxRecDepth 100000 in
theorem c_X7_init (l : Launch) (dC : Nat → ClassId) (dI : Nat → Nat → Nat) (h0 : Nat) (sz : Nat) : Met l yX7_init (.code yX7_init cX7_init 1 none :: pw) ({ frames := 1, cells := 18, slots := 20375, locals := 12 }) (pc (dC, dI) [.ref h0] sz [(h0, .inr (7, [.null, .null, .null, .null, .null, .null, .null, .null, .null, .null, .null, .int 0, .null, .int 0, .int 0, .int 0, .int 0, .null, .int 0, .null, .null, .null, .null, .int 0, .int 0, .null]))] []) (va_Qv (fun (_ : Unit) => True) (fun _ t => ∃ (mnw : Nat), ∃ (mhd : Nat), ∃ (mas : Nat), ∃ (mps : Nat), ∃ (msf : Nat), ∃ (mdt : Nat), ∃ (mhdd : Nat), ∃ (masd : Nat), ∃ (mpsd : Nat), ∃ (msfd : Nat), ∃ (mkp : Nat), ∃ (mtp : Nat), ∃ (mld : Nat), ∃ (mmd : Nat), ∃ (men : Nat), ∃ (mil : Nat), ∃ (mqu : Nat), ∃ (mbx : Nat), ∃ (kI : ClassId), ∃ (kI2 : ClassId), ∃ (kI3 : ClassId), ∃ (kI4 : ClassId), ∃ (kI5 : ClassId), ∃ (kJ : ClassId), ∃ (kJ2 : ClassId), ∃ (kJ3 : ClassId), ∃ (kJ4 : ClassId), ∃ (kJ5 : ClassId), ∃ (kZ : ClassId), ∃ (kB : ClassId), wB (dC, dI) [(h0, .inr (7, [.ref mnw, .ref mhd, .ref mas, .ref mps, .ref msf, .ref mdt, .ref mhdd, .ref masd, .ref mpsd, .ref msfd, .ref mkp, .int 0, .ref mtp, .int 0, .int 0, .int 0, .int 0, .ref mld, .int 0, .ref mmd, .ref men, .ref mil, .ref mqu, .int 0, .int 0, .ref mbx])), (mnw, .inl (kI, 99, .inl (fun _ => 0))), (mhd, .inl (kI2, 99, .inl (fun _ => 0))), (mas, .inl (kI3, 99, .inl (fun _ => 0))), (mps, .inl (kI4, 990, .inl (fun _ => 0))), (msf, .inl (kI5, 198, .inl (fun _ => 0))), (mdt, .inl (kJ, 640, .inr (.inl (fun _ => 0)))), (mhdd, .inl (kJ2, 640, .inr (.inl (fun _ => 0)))), (masd, .inl (kJ3, 640, .inr (.inl (fun _ => 0)))), (mpsd, .inl (kJ4, 6400, .inr (.inl (fun _ => 0)))), (msfd, .inl (kJ5, 1280, .inr (.inl (fun _ => 0)))), (mkp, .inl (kZ, 2, .inl (fun _ => 0))), (mtp, .inl (kB, 400, .inl (fun _ => 0)))] [(kI, .int), (kI2, .int), (kI3, .int), (kI4, .int), (kI5, .int), (kJ, .long), (kJ2, .long), (kJ3, .long), (kJ4, .long), (kJ5, .long), (kZ, .boolean), (kB, .byte)] (va_A [(h0, .inr (7, [.null, .null, .null, .null, .null, .null, .null, .null, .null, .null, .null, .int 0, .null, .int 0, .int 0, .int 0, .int 0, .null, .int 0, .null, .null, .null, .null, .int 0, .int 0, .null]))] sz) t) (va_A [(h0, .inr (7, [.null, .null, .null, .null, .null, .null, .null, .null, .null, .null, .null, .int 0, .null, .int 0, .int 0, .int 0, .int 0, .null, .int 0, .null, .null, .null, .null, .int 0, .int 0, .null]))] sz)) 18 20375 (va_A [(h0, .inr (7, [.null, .null, .null, .null, .null, .null, .null, .null, .null, .null, .null, .int 0, .null, .int 0, .int 0, .int 0, .int 0, .null, .int 0, .null, .null, .null, .null, .int 0, .int 0, .null]))] sz) := by
  refine Met.ofW (cc := cX7_init) (maxL := 1) (ret := none) (by decide +kernel) rfl ?_
  intro p e s m args below meth c s₁ B hml hv
  obtain ⟨rfl, hsz, hP, hK, hD0, hN⟩ := hv
  have hx := B.exec
  have hb := B.bytes
  have hr := B.returns
  have hts := fun w (h : w ∈ pw) => atoms_spec (ws := Cond.code yX7_init cX7_init 1 none :: pw) B.pre w (List.mem_cons_of_mem _ h)
  have hown : s.vm.findClass RX7 = some m.cls := findClass_of_methodNamed B.named
  have hlocks := B.notSynchronized
  have hin : meth.name = "<init>" := (name_of_methodNamed B.named B.method).1
  subst hsz
  have hD := hD0.self (sz := s.heap.size)
  generalize hAe : va_A [(h0, .inr (7, [.null, .null, .null, .null, .null, .null, .null, .null, .null, .null, .null, .int 0, .null, .int 0, .int 0, .int 0, .int 0, .null, .int 0, .null, .null, .null, .null, .int 0, .int 0, .null]))] s.heap.size = A at hD ⊢
  have hA : ∀ q : Nat, s.heap.size ≤ q → A q := fun q h => by rw [← hAe]; exact Or.inr h
  obtain ⟨H, hHe⟩ : ∃ H : Heap, H = s.heap := ⟨_, rfl⟩
  have hS : va_S A s.heap H [] := by rw [hHe]; exact va_S.rf
  rw [← hHe] at hP
  have hl := lv_entry ([.ref h0]) (n := 1) (Nat.le_of_ble_eq_true rfl)
  rw [lg_entry_eq]
  generalize (lg_sl ([.ref h0]) ++ List.replicate (1 - (lg_sl ([.ref h0])).length) Slot.unset).toArray = ls at hl ⊢
  have hl : lv_has ls 1 [(0, .ref h0)] := hl
  rw [← hHe]
  refine lv_aload_n hx hb dX7_init_0 rfl (lv_at hl 0 rfl) ?_
  refine W.objInit hx hb hown (hts _ pq1114) (hts _ pq99) (hts _ pq100) rfl (by rw [hml]; exact hl.1) rfl dX7_init_1 (Nat.le_of_ble_eq_true rfl) (Nat.le_of_ble_eq_true rfl) ?_
  refine W.eq (g2 := F0 m 4 ls []) rfl ?_
  refine lv_aload_n hx hb dX7_init_4 rfl (lv_at hl 0 rfl) ?_
  refine lv_bipush (v := 99) hx hb dX7_init_5 (by decide +kernel) ?_
  refine va_newa (atype := .int) (ty := .int) (a0 := (99, .inl (fun _ => 0))) hx hb (hts _ pq347) rfl hK hP hD hS hA (fun _ => rfl) (by decide +kernel) (by decide +kernel) (Nat.le_of_ble_eq_true rfl) (Nat.le_of_ble_eq_true rfl) (Nat.le_of_ble_eq_true rfl) dX7_init_7 (fun q1 k2 H hK hP hD hS => ?_)
  have hP : va_P (dC, dI) vwCl [(h0, .inr (7, [.null, .null, .null, .null, .null, .null, .null, .null, .null, .null, .null, .int 0, .null, .int 0, .int 0, .int 0, .int 0, .null, .int 0, .null, .null, .null, .null, .int 0, .int 0, .null])), (q1, .inl (k2, 99, .inl (fun _ => 0)))] H := hP
  have hD : va_D A [(h0, .inr (7, [.null, .null, .null, .null, .null, .null, .null, .null, .null, .null, .null, .int 0, .null, .int 0, .int 0, .int 0, .int 0, .null, .int 0, .null, .null, .null, .null, .int 0, .int 0, .null])), (q1, .inl (k2, 99, .inl (fun _ => 0)))] := hD
  have hK : va_K (dC, dI) vwCl [(k2, .int)] s := hK
  refine W.widen (k := 1) (n := 99) (Nat.le_of_ble_eq_true rfl) (Nat.le_of_ble_eq_true rfl) ?_
  refine va_putF (D := (dC, dI)) (ci := 7) (v := .ref q1) (ty := tyX7 0) (C := RX7) (T := TX7) (N := 26) hx hb hts inX7 tyX7 tyX7_ok nmX7 hown hK hP hD hS 0 rfl rfl 0 (by decide) (hts _ pq1115) (fun _ h9 => h9) rfl hin rfl (by decide +kernel) rfl rfl (Nat.le_of_ble_eq_true rfl) dX7_init_9 (fun H locs hP hD hS => ?_)
  have hP : va_P (dC, dI) vwCl [(h0, .inr (7, [.ref q1, .null, .null, .null, .null, .null, .null, .null, .null, .null, .null, .int 0, .null, .int 0, .int 0, .int 0, .int 0, .null, .int 0, .null, .null, .null, .null, .int 0, .int 0, .null])), (q1, .inl (k2, 99, .inl (fun _ => 0)))] H := hP
  have hD : va_D A [(h0, .inr (7, [.ref q1, .null, .null, .null, .null, .null, .null, .null, .null, .null, .null, .int 0, .null, .int 0, .int 0, .int 0, .int 0, .null, .int 0, .null, .null, .null, .null, .int 0, .int 0, .null])), (q1, .inl (k2, 99, .inl (fun _ => 0)))] := hD
  refine lv_aload_n hx hb dX7_init_12 rfl (lv_at hl 0 rfl) ?_
  refine lv_bipush (v := 99) hx hb dX7_init_13 (by decide +kernel) ?_
  refine va_newa (atype := .int) (ty := .int) (a0 := (99, .inl (fun _ => 0))) hx hb (hts _ pq347) rfl hK hP hD hS hA (fun _ => rfl) (by decide +kernel) (by decide +kernel) (Nat.le_of_ble_eq_true rfl) (Nat.le_of_ble_eq_true rfl) (Nat.le_of_ble_eq_true rfl) dX7_init_15 (fun q3 k4 H hK hP hD hS => ?_)
  have hP : va_P (dC, dI) vwCl [(h0, .inr (7, [.ref q1, .null, .null, .null, .null, .null, .null, .null, .null, .null, .null, .int 0, .null, .int 0, .int 0, .int 0, .int 0, .null, .int 0, .null, .null, .null, .null, .int 0, .int 0, .null])), (q1, .inl (k2, 99, .inl (fun _ => 0))), (q3, .inl (k4, 99, .inl (fun _ => 0)))] H := hP
  have hD : va_D A [(h0, .inr (7, [.ref q1, .null, .null, .null, .null, .null, .null, .null, .null, .null, .null, .int 0, .null, .int 0, .int 0, .int 0, .int 0, .null, .int 0, .null, .null, .null, .null, .int 0, .int 0, .null])), (q1, .inl (k2, 99, .inl (fun _ => 0))), (q3, .inl (k4, 99, .inl (fun _ => 0)))] := hD
  have hK : va_K (dC, dI) vwCl [(k2, .int), (k4, .int)] s := hK
  refine W.widen (k := 2) (n := 198) (Nat.le_of_ble_eq_true rfl) (Nat.le_of_ble_eq_true rfl) ?_
  refine va_putF (D := (dC, dI)) (ci := 7) (v := .ref q3) (ty := tyX7 1) (C := RX7) (T := TX7) (N := 26) hx hb hts inX7 tyX7 tyX7_ok nmX7 hown hK hP hD hS 0 rfl rfl 1 (by decide) (hts _ pq1116) (fun _ h9 => h9) rfl hin rfl (by decide +kernel) rfl rfl (Nat.le_of_ble_eq_true rfl) dX7_init_17 (fun H locs hP hD hS => ?_)
  have hP : va_P (dC, dI) vwCl [(h0, .inr (7, [.ref q1, .ref q3, .null, .null, .null, .null, .null, .null, .null, .null, .null, .int 0, .null, .int 0, .int 0, .int 0, .int 0, .null, .int 0, .null, .null, .null, .null, .int 0, .int 0, .null])), (q1, .inl (k2, 99, .inl (fun _ => 0))), (q3, .inl (k4, 99, .inl (fun _ => 0)))] H := hP
  have hD : va_D A [(h0, .inr (7, [.ref q1, .ref q3, .null, .null, .null, .null, .null, .null, .null, .null, .null, .int 0, .null, .int 0, .int 0, .int 0, .int 0, .null, .int 0, .null, .null, .null, .null, .int 0, .int 0, .null])), (q1, .inl (k2, 99, .inl (fun _ => 0))), (q3, .inl (k4, 99, .inl (fun _ => 0)))] := hD
  refine lv_aload_n hx hb dX7_init_20 rfl (lv_at hl 0 rfl) ?_
  refine lv_bipush (v := 99) hx hb dX7_init_21 (by decide +kernel) ?_
  refine va_newa (atype := .int) (ty := .int) (a0 := (99, .inl (fun _ => 0))) hx hb (hts _ pq347) rfl hK hP hD hS hA (fun _ => rfl) (by decide +kernel) (by decide +kernel) (Nat.le_of_ble_eq_true rfl) (Nat.le_of_ble_eq_true rfl) (Nat.le_of_ble_eq_true rfl) dX7_init_23 (fun q5 k6 H hK hP hD hS => ?_)
  have hP : va_P (dC, dI) vwCl [(h0, .inr (7, [.ref q1, .ref q3, .null, .null, .null, .null, .null, .null, .null, .null, .null, .int 0, .null, .int 0, .int 0, .int 0, .int 0, .null, .int 0, .null, .null, .null, .null, .int 0, .int 0, .null])), (q1, .inl (k2, 99, .inl (fun _ => 0))), (q3, .inl (k4, 99, .inl (fun _ => 0))), (q5, .inl (k6, 99, .inl (fun _ => 0)))] H := hP
  have hD : va_D A [(h0, .inr (7, [.ref q1, .ref q3, .null, .null, .null, .null, .null, .null, .null, .null, .null, .int 0, .null, .int 0, .int 0, .int 0, .int 0, .null, .int 0, .null, .null, .null, .null, .int 0, .int 0, .null])), (q1, .inl (k2, 99, .inl (fun _ => 0))), (q3, .inl (k4, 99, .inl (fun _ => 0))), (q5, .inl (k6, 99, .inl (fun _ => 0)))] := hD
  have hK : va_K (dC, dI) vwCl [(k2, .int), (k4, .int), (k6, .int)] s := hK
  refine W.widen (k := 3) (n := 297) (Nat.le_of_ble_eq_true rfl) (Nat.le_of_ble_eq_true rfl) ?_
  refine va_putF (D := (dC, dI)) (ci := 7) (v := .ref q5) (ty := tyX7 2) (C := RX7) (T := TX7) (N := 26) hx hb hts inX7 tyX7 tyX7_ok nmX7 hown hK hP hD hS 0 rfl rfl 2 (by decide) (hts _ pq1117) (fun _ h9 => h9) rfl hin rfl (by decide +kernel) rfl rfl (Nat.le_of_ble_eq_true rfl) dX7_init_25 (fun H locs hP hD hS => ?_)
  have hP : va_P (dC, dI) vwCl [(h0, .inr (7, [.ref q1, .ref q3, .ref q5, .null, .null, .null, .null, .null, .null, .null, .null, .int 0, .null, .int 0, .int 0, .int 0, .int 0, .null, .int 0, .null, .null, .null, .null, .int 0, .int 0, .null])), (q1, .inl (k2, 99, .inl (fun _ => 0))), (q3, .inl (k4, 99, .inl (fun _ => 0))), (q5, .inl (k6, 99, .inl (fun _ => 0)))] H := hP
  have hD : va_D A [(h0, .inr (7, [.ref q1, .ref q3, .ref q5, .null, .null, .null, .null, .null, .null, .null, .null, .int 0, .null, .int 0, .int 0, .int 0, .int 0, .null, .int 0, .null, .null, .null, .null, .int 0, .int 0, .null])), (q1, .inl (k2, 99, .inl (fun _ => 0))), (q3, .inl (k4, 99, .inl (fun _ => 0))), (q5, .inl (k6, 99, .inl (fun _ => 0)))] := hD
  refine lv_aload_n hx hb dX7_init_28 rfl (lv_at hl 0 rfl) ?_
  refine lv_sipush (v := 990) hx hb dX7_init_29 (by decide +kernel) ?_
  refine va_newa (atype := .int) (ty := .int) (a0 := (990, .inl (fun _ => 0))) hx hb (hts _ pq347) rfl hK hP hD hS hA (fun _ => rfl) (by decide +kernel) (by decide +kernel) (Nat.le_of_ble_eq_true rfl) (Nat.le_of_ble_eq_true rfl) (Nat.le_of_ble_eq_true rfl) dX7_init_32 (fun q7 k8 H hK hP hD hS => ?_)
  have hP : va_P (dC, dI) vwCl [(h0, .inr (7, [.ref q1, .ref q3, .ref q5, .null, .null, .null, .null, .null, .null, .null, .null, .int 0, .null, .int 0, .int 0, .int 0, .int 0, .null, .int 0, .null, .null, .null, .null, .int 0, .int 0, .null])), (q1, .inl (k2, 99, .inl (fun _ => 0))), (q3, .inl (k4, 99, .inl (fun _ => 0))), (q5, .inl (k6, 99, .inl (fun _ => 0))), (q7, .inl (k8, 990, .inl (fun _ => 0)))] H := hP
  have hD : va_D A [(h0, .inr (7, [.ref q1, .ref q3, .ref q5, .null, .null, .null, .null, .null, .null, .null, .null, .int 0, .null, .int 0, .int 0, .int 0, .int 0, .null, .int 0, .null, .null, .null, .null, .int 0, .int 0, .null])), (q1, .inl (k2, 99, .inl (fun _ => 0))), (q3, .inl (k4, 99, .inl (fun _ => 0))), (q5, .inl (k6, 99, .inl (fun _ => 0))), (q7, .inl (k8, 990, .inl (fun _ => 0)))] := hD
  have hK : va_K (dC, dI) vwCl [(k2, .int), (k4, .int), (k6, .int), (k8, .int)] s := hK
  refine W.widen (k := 4) (n := 1287) (Nat.le_of_ble_eq_true rfl) (Nat.le_of_ble_eq_true rfl) ?_
  refine va_putF (D := (dC, dI)) (ci := 7) (v := .ref q7) (ty := tyX7 3) (C := RX7) (T := TX7) (N := 26) hx hb hts inX7 tyX7 tyX7_ok nmX7 hown hK hP hD hS 0 rfl rfl 3 (by decide) (hts _ pq1118) (fun _ h9 => h9) rfl hin rfl (by decide +kernel) rfl rfl (Nat.le_of_ble_eq_true rfl) dX7_init_34 (fun H locs hP hD hS => ?_)
  have hP : va_P (dC, dI) vwCl [(h0, .inr (7, [.ref q1, .ref q3, .ref q5, .ref q7, .null, .null, .null, .null, .null, .null, .null, .int 0, .null, .int 0, .int 0, .int 0, .int 0, .null, .int 0, .null, .null, .null, .null, .int 0, .int 0, .null])), (q1, .inl (k2, 99, .inl (fun _ => 0))), (q3, .inl (k4, 99, .inl (fun _ => 0))), (q5, .inl (k6, 99, .inl (fun _ => 0))), (q7, .inl (k8, 990, .inl (fun _ => 0)))] H := hP
  have hD : va_D A [(h0, .inr (7, [.ref q1, .ref q3, .ref q5, .ref q7, .null, .null, .null, .null, .null, .null, .null, .int 0, .null, .int 0, .int 0, .int 0, .int 0, .null, .int 0, .null, .null, .null, .null, .int 0, .int 0, .null])), (q1, .inl (k2, 99, .inl (fun _ => 0))), (q3, .inl (k4, 99, .inl (fun _ => 0))), (q5, .inl (k6, 99, .inl (fun _ => 0))), (q7, .inl (k8, 990, .inl (fun _ => 0)))] := hD
  refine lv_aload_n hx hb dX7_init_37 rfl (lv_at hl 0 rfl) ?_
  refine lv_sipush (v := 198) hx hb dX7_init_38 (by decide +kernel) ?_
  refine va_newa (atype := .int) (ty := .int) (a0 := (198, .inl (fun _ => 0))) hx hb (hts _ pq347) rfl hK hP hD hS hA (fun _ => rfl) (by decide +kernel) (by decide +kernel) (Nat.le_of_ble_eq_true rfl) (Nat.le_of_ble_eq_true rfl) (Nat.le_of_ble_eq_true rfl) dX7_init_41 (fun q9 k10 H hK hP hD hS => ?_)
  have hP : va_P (dC, dI) vwCl [(h0, .inr (7, [.ref q1, .ref q3, .ref q5, .ref q7, .null, .null, .null, .null, .null, .null, .null, .int 0, .null, .int 0, .int 0, .int 0, .int 0, .null, .int 0, .null, .null, .null, .null, .int 0, .int 0, .null])), (q1, .inl (k2, 99, .inl (fun _ => 0))), (q3, .inl (k4, 99, .inl (fun _ => 0))), (q5, .inl (k6, 99, .inl (fun _ => 0))), (q7, .inl (k8, 990, .inl (fun _ => 0))), (q9, .inl (k10, 198, .inl (fun _ => 0)))] H := hP
  have hD : va_D A [(h0, .inr (7, [.ref q1, .ref q3, .ref q5, .ref q7, .null, .null, .null, .null, .null, .null, .null, .int 0, .null, .int 0, .int 0, .int 0, .int 0, .null, .int 0, .null, .null, .null, .null, .int 0, .int 0, .null])), (q1, .inl (k2, 99, .inl (fun _ => 0))), (q3, .inl (k4, 99, .inl (fun _ => 0))), (q5, .inl (k6, 99, .inl (fun _ => 0))), (q7, .inl (k8, 990, .inl (fun _ => 0))), (q9, .inl (k10, 198, .inl (fun _ => 0)))] := hD
  have hK : va_K (dC, dI) vwCl [(k2, .int), (k4, .int), (k6, .int), (k8, .int), (k10, .int)] s := hK
  refine W.widen (k := 5) (n := 1485) (Nat.le_of_ble_eq_true rfl) (Nat.le_of_ble_eq_true rfl) ?_
  refine va_putF (D := (dC, dI)) (ci := 7) (v := .ref q9) (ty := tyX7 4) (C := RX7) (T := TX7) (N := 26) hx hb hts inX7 tyX7 tyX7_ok nmX7 hown hK hP hD hS 0 rfl rfl 4 (by decide) (hts _ pq1119) (fun _ h9 => h9) rfl hin rfl (by decide +kernel) rfl rfl (Nat.le_of_ble_eq_true rfl) dX7_init_43 (fun H locs hP hD hS => ?_)
  have hP : va_P (dC, dI) vwCl [(h0, .inr (7, [.ref q1, .ref q3, .ref q5, .ref q7, .ref q9, .null, .null, .null, .null, .null, .null, .int 0, .null, .int 0, .int 0, .int 0, .int 0, .null, .int 0, .null, .null, .null, .null, .int 0, .int 0, .null])), (q1, .inl (k2, 99, .inl (fun _ => 0))), (q3, .inl (k4, 99, .inl (fun _ => 0))), (q5, .inl (k6, 99, .inl (fun _ => 0))), (q7, .inl (k8, 990, .inl (fun _ => 0))), (q9, .inl (k10, 198, .inl (fun _ => 0)))] H := hP
  have hD : va_D A [(h0, .inr (7, [.ref q1, .ref q3, .ref q5, .ref q7, .ref q9, .null, .null, .null, .null, .null, .null, .int 0, .null, .int 0, .int 0, .int 0, .int 0, .null, .int 0, .null, .null, .null, .null, .int 0, .int 0, .null])), (q1, .inl (k2, 99, .inl (fun _ => 0))), (q3, .inl (k4, 99, .inl (fun _ => 0))), (q5, .inl (k6, 99, .inl (fun _ => 0))), (q7, .inl (k8, 990, .inl (fun _ => 0))), (q9, .inl (k10, 198, .inl (fun _ => 0)))] := hD
  refine lv_aload_n hx hb dX7_init_46 rfl (lv_at hl 0 rfl) ?_
  refine lv_sipush (v := 640) hx hb dX7_init_47 (by decide +kernel) ?_
  refine va_newa (atype := .long) (ty := .long) (a0 := (640, .inr (.inl (fun _ => 0)))) hx hb (hts _ pq163) rfl hK hP hD hS hA (fun _ => rfl) (by decide +kernel) (by decide +kernel) (Nat.le_of_ble_eq_true rfl) (Nat.le_of_ble_eq_true rfl) (Nat.le_of_ble_eq_true rfl) dX7_init_50 (fun q11 k12 H hK hP hD hS => ?_)
  have hP : va_P (dC, dI) vwCl [(h0, .inr (7, [.ref q1, .ref q3, .ref q5, .ref q7, .ref q9, .null, .null, .null, .null, .null, .null, .int 0, .null, .int 0, .int 0, .int 0, .int 0, .null, .int 0, .null, .null, .null, .null, .int 0, .int 0, .null])), (q1, .inl (k2, 99, .inl (fun _ => 0))), (q3, .inl (k4, 99, .inl (fun _ => 0))), (q5, .inl (k6, 99, .inl (fun _ => 0))), (q7, .inl (k8, 990, .inl (fun _ => 0))), (q9, .inl (k10, 198, .inl (fun _ => 0))), (q11, .inl (k12, 640, .inr (.inl (fun _ => 0))))] H := hP
  have hD : va_D A [(h0, .inr (7, [.ref q1, .ref q3, .ref q5, .ref q7, .ref q9, .null, .null, .null, .null, .null, .null, .int 0, .null, .int 0, .int 0, .int 0, .int 0, .null, .int 0, .null, .null, .null, .null, .int 0, .int 0, .null])), (q1, .inl (k2, 99, .inl (fun _ => 0))), (q3, .inl (k4, 99, .inl (fun _ => 0))), (q5, .inl (k6, 99, .inl (fun _ => 0))), (q7, .inl (k8, 990, .inl (fun _ => 0))), (q9, .inl (k10, 198, .inl (fun _ => 0))), (q11, .inl (k12, 640, .inr (.inl (fun _ => 0))))] := hD
  have hK : va_K (dC, dI) vwCl [(k2, .int), (k4, .int), (k6, .int), (k8, .int), (k10, .int), (k12, .long)] s := hK
  refine W.widen (k := 6) (n := 2125) (Nat.le_of_ble_eq_true rfl) (Nat.le_of_ble_eq_true rfl) ?_
  refine va_putF (D := (dC, dI)) (ci := 7) (v := .ref q11) (ty := tyX7 5) (C := RX7) (T := TX7) (N := 26) hx hb hts inX7 tyX7 tyX7_ok nmX7 hown hK hP hD hS 0 rfl rfl 5 (by decide) (hts _ pq1120) (fun _ h9 => h9) rfl hin rfl (by decide +kernel) rfl rfl (Nat.le_of_ble_eq_true rfl) dX7_init_52 (fun H locs hP hD hS => ?_)
  have hP : va_P (dC, dI) vwCl [(h0, .inr (7, [.ref q1, .ref q3, .ref q5, .ref q7, .ref q9, .ref q11, .null, .null, .null, .null, .null, .int 0, .null, .int 0, .int 0, .int 0, .int 0, .null, .int 0, .null, .null, .null, .null, .int 0, .int 0, .null])), (q1, .inl (k2, 99, .inl (fun _ => 0))), (q3, .inl (k4, 99, .inl (fun _ => 0))), (q5, .inl (k6, 99, .inl (fun _ => 0))), (q7, .inl (k8, 990, .inl (fun _ => 0))), (q9, .inl (k10, 198, .inl (fun _ => 0))), (q11, .inl (k12, 640, .inr (.inl (fun _ => 0))))] H := hP
  have hD : va_D A [(h0, .inr (7, [.ref q1, .ref q3, .ref q5, .ref q7, .ref q9, .ref q11, .null, .null, .null, .null, .null, .int 0, .null, .int 0, .int 0, .int 0, .int 0, .null, .int 0, .null, .null, .null, .null, .int 0, .int 0, .null])), (q1, .inl (k2, 99, .inl (fun _ => 0))), (q3, .inl (k4, 99, .inl (fun _ => 0))), (q5, .inl (k6, 99, .inl (fun _ => 0))), (q7, .inl (k8, 990, .inl (fun _ => 0))), (q9, .inl (k10, 198, .inl (fun _ => 0))), (q11, .inl (k12, 640, .inr (.inl (fun _ => 0))))] := hD
  refine lv_aload_n hx hb dX7_init_55 rfl (lv_at hl 0 rfl) ?_
  refine lv_sipush (v := 640) hx hb dX7_init_56 (by decide +kernel) ?_
  refine va_newa (atype := .long) (ty := .long) (a0 := (640, .inr (.inl (fun _ => 0)))) hx hb (hts _ pq163) rfl hK hP hD hS hA (fun _ => rfl) (by decide +kernel) (by decide +kernel) (Nat.le_of_ble_eq_true rfl) (Nat.le_of_ble_eq_true rfl) (Nat.le_of_ble_eq_true rfl) dX7_init_59 (fun q13 k14 H hK hP hD hS => ?_)
  have hP : va_P (dC, dI) vwCl [(h0, .inr (7, [.ref q1, .ref q3, .ref q5, .ref q7, .ref q9, .ref q11, .null, .null, .null, .null, .null, .int 0, .null, .int 0, .int 0, .int 0, .int 0, .null, .int 0, .null, .null, .null, .null, .int 0, .int 0, .null])), (q1, .inl (k2, 99, .inl (fun _ => 0))), (q3, .inl (k4, 99, .inl (fun _ => 0))), (q5, .inl (k6, 99, .inl (fun _ => 0))), (q7, .inl (k8, 990, .inl (fun _ => 0))), (q9, .inl (k10, 198, .inl (fun _ => 0))), (q11, .inl (k12, 640, .inr (.inl (fun _ => 0)))), (q13, .inl (k14, 640, .inr (.inl (fun _ => 0))))] H := hP
  have hD : va_D A [(h0, .inr (7, [.ref q1, .ref q3, .ref q5, .ref q7, .ref q9, .ref q11, .null, .null, .null, .null, .null, .int 0, .null, .int 0, .int 0, .int 0, .int 0, .null, .int 0, .null, .null, .null, .null, .int 0, .int 0, .null])), (q1, .inl (k2, 99, .inl (fun _ => 0))), (q3, .inl (k4, 99, .inl (fun _ => 0))), (q5, .inl (k6, 99, .inl (fun _ => 0))), (q7, .inl (k8, 990, .inl (fun _ => 0))), (q9, .inl (k10, 198, .inl (fun _ => 0))), (q11, .inl (k12, 640, .inr (.inl (fun _ => 0)))), (q13, .inl (k14, 640, .inr (.inl (fun _ => 0))))] := hD
  have hK : va_K (dC, dI) vwCl [(k2, .int), (k4, .int), (k6, .int), (k8, .int), (k10, .int), (k12, .long), (k14, .long)] s := hK
  refine W.widen (k := 7) (n := 2765) (Nat.le_of_ble_eq_true rfl) (Nat.le_of_ble_eq_true rfl) ?_
  refine va_putF (D := (dC, dI)) (ci := 7) (v := .ref q13) (ty := tyX7 6) (C := RX7) (T := TX7) (N := 26) hx hb hts inX7 tyX7 tyX7_ok nmX7 hown hK hP hD hS 0 rfl rfl 6 (by decide) (hts _ pq1121) (fun _ h9 => h9) rfl hin rfl (by decide +kernel) rfl rfl (Nat.le_of_ble_eq_true rfl) dX7_init_61 (fun H locs hP hD hS => ?_)
  have hP : va_P (dC, dI) vwCl [(h0, .inr (7, [.ref q1, .ref q3, .ref q5, .ref q7, .ref q9, .ref q11, .ref q13, .null, .null, .null, .null, .int 0, .null, .int 0, .int 0, .int 0, .int 0, .null, .int 0, .null, .null, .null, .null, .int 0, .int 0, .null])), (q1, .inl (k2, 99, .inl (fun _ => 0))), (q3, .inl (k4, 99, .inl (fun _ => 0))), (q5, .inl (k6, 99, .inl (fun _ => 0))), (q7, .inl (k8, 990, .inl (fun _ => 0))), (q9, .inl (k10, 198, .inl (fun _ => 0))), (q11, .inl (k12, 640, .inr (.inl (fun _ => 0)))), (q13, .inl (k14, 640, .inr (.inl (fun _ => 0))))] H := hP
  have hD : va_D A [(h0, .inr (7, [.ref q1, .ref q3, .ref q5, .ref q7, .ref q9, .ref q11, .ref q13, .null, .null, .null, .null, .int 0, .null, .int 0, .int 0, .int 0, .int 0, .null, .int 0, .null, .null, .null, .null, .int 0, .int 0, .null])), (q1, .inl (k2, 99, .inl (fun _ => 0))), (q3, .inl (k4, 99, .inl (fun _ => 0))), (q5, .inl (k6, 99, .inl (fun _ => 0))), (q7, .inl (k8, 990, .inl (fun _ => 0))), (q9, .inl (k10, 198, .inl (fun _ => 0))), (q11, .inl (k12, 640, .inr (.inl (fun _ => 0)))), (q13, .inl (k14, 640, .inr (.inl (fun _ => 0))))] := hD
  refine lv_aload_n hx hb dX7_init_64 rfl (lv_at hl 0 rfl) ?_
  refine lv_sipush (v := 640) hx hb dX7_init_65 (by decide +kernel) ?_
  refine va_newa (atype := .long) (ty := .long) (a0 := (640, .inr (.inl (fun _ => 0)))) hx hb (hts _ pq163) rfl hK hP hD hS hA (fun _ => rfl) (by decide +kernel) (by decide +kernel) (Nat.le_of_ble_eq_true rfl) (Nat.le_of_ble_eq_true rfl) (Nat.le_of_ble_eq_true rfl) dX7_init_68 (fun q15 k16 H hK hP hD hS => ?_)
  have hP : va_P (dC, dI) vwCl [(h0, .inr (7, [.ref q1, .ref q3, .ref q5, .ref q7, .ref q9, .ref q11, .ref q13, .null, .null, .null, .null, .int 0, .null, .int 0, .int 0, .int 0, .int 0, .null, .int 0, .null, .null, .null, .null, .int 0, .int 0, .null])), (q1, .inl (k2, 99, .inl (fun _ => 0))), (q3, .inl (k4, 99, .inl (fun _ => 0))), (q5, .inl (k6, 99, .inl (fun _ => 0))), (q7, .inl (k8, 990, .inl (fun _ => 0))), (q9, .inl (k10, 198, .inl (fun _ => 0))), (q11, .inl (k12, 640, .inr (.inl (fun _ => 0)))), (q13, .inl (k14, 640, .inr (.inl (fun _ => 0)))), (q15, .inl (k16, 640, .inr (.inl (fun _ => 0))))] H := hP
  have hD : va_D A [(h0, .inr (7, [.ref q1, .ref q3, .ref q5, .ref q7, .ref q9, .ref q11, .ref q13, .null, .null, .null, .null, .int 0, .null, .int 0, .int 0, .int 0, .int 0, .null, .int 0, .null, .null, .null, .null, .int 0, .int 0, .null])), (q1, .inl (k2, 99, .inl (fun _ => 0))), (q3, .inl (k4, 99, .inl (fun _ => 0))), (q5, .inl (k6, 99, .inl (fun _ => 0))), (q7, .inl (k8, 990, .inl (fun _ => 0))), (q9, .inl (k10, 198, .inl (fun _ => 0))), (q11, .inl (k12, 640, .inr (.inl (fun _ => 0)))), (q13, .inl (k14, 640, .inr (.inl (fun _ => 0)))), (q15, .inl (k16, 640, .inr (.inl (fun _ => 0))))] := hD
  have hK : va_K (dC, dI) vwCl [(k2, .int), (k4, .int), (k6, .int), (k8, .int), (k10, .int), (k12, .long), (k14, .long), (k16, .long)] s := hK
  refine W.widen (k := 8) (n := 3405) (Nat.le_of_ble_eq_true rfl) (Nat.le_of_ble_eq_true rfl) ?_
  refine va_putF (D := (dC, dI)) (ci := 7) (v := .ref q15) (ty := tyX7 7) (C := RX7) (T := TX7) (N := 26) hx hb hts inX7 tyX7 tyX7_ok nmX7 hown hK hP hD hS 0 rfl rfl 7 (by decide) (hts _ pq1122) (fun _ h9 => h9) rfl hin rfl (by decide +kernel) rfl rfl (Nat.le_of_ble_eq_true rfl) dX7_init_70 (fun H locs hP hD hS => ?_)
  have hP : va_P (dC, dI) vwCl [(h0, .inr (7, [.ref q1, .ref q3, .ref q5, .ref q7, .ref q9, .ref q11, .ref q13, .ref q15, .null, .null, .null, .int 0, .null, .int 0, .int 0, .int 0, .int 0, .null, .int 0, .null, .null, .null, .null, .int 0, .int 0, .null])), (q1, .inl (k2, 99, .inl (fun _ => 0))), (q3, .inl (k4, 99, .inl (fun _ => 0))), (q5, .inl (k6, 99, .inl (fun _ => 0))), (q7, .inl (k8, 990, .inl (fun _ => 0))), (q9, .inl (k10, 198, .inl (fun _ => 0))), (q11, .inl (k12, 640, .inr (.inl (fun _ => 0)))), (q13, .inl (k14, 640, .inr (.inl (fun _ => 0)))), (q15, .inl (k16, 640, .inr (.inl (fun _ => 0))))] H := hP
  have hD : va_D A [(h0, .inr (7, [.ref q1, .ref q3, .ref q5, .ref q7, .ref q9, .ref q11, .ref q13, .ref q15, .null, .null, .null, .int 0, .null, .int 0, .int 0, .int 0, .int 0, .null, .int 0, .null, .null, .null, .null, .int 0, .int 0, .null])), (q1, .inl (k2, 99, .inl (fun _ => 0))), (q3, .inl (k4, 99, .inl (fun _ => 0))), (q5, .inl (k6, 99, .inl (fun _ => 0))), (q7, .inl (k8, 990, .inl (fun _ => 0))), (q9, .inl (k10, 198, .inl (fun _ => 0))), (q11, .inl (k12, 640, .inr (.inl (fun _ => 0)))), (q13, .inl (k14, 640, .inr (.inl (fun _ => 0)))), (q15, .inl (k16, 640, .inr (.inl (fun _ => 0))))] := hD
  refine lv_aload_n hx hb dX7_init_73 rfl (lv_at hl 0 rfl) ?_
  refine lv_sipush (v := 6400) hx hb dX7_init_74 (by decide +kernel) ?_
  refine va_newa (atype := .long) (ty := .long) (a0 := (6400, .inr (.inl (fun _ => 0)))) hx hb (hts _ pq163) rfl hK hP hD hS hA (fun _ => rfl) (by decide +kernel) (by decide +kernel) (Nat.le_of_ble_eq_true rfl) (Nat.le_of_ble_eq_true rfl) (Nat.le_of_ble_eq_true rfl) dX7_init_77 (fun q17 k18 H hK hP hD hS => ?_)
  have hP : va_P (dC, dI) vwCl [(h0, .inr (7, [.ref q1, .ref q3, .ref q5, .ref q7, .ref q9, .ref q11, .ref q13, .ref q15, .null, .null, .null, .int 0, .null, .int 0, .int 0, .int 0, .int 0, .null, .int 0, .null, .null, .null, .null, .int 0, .int 0, .null])), (q1, .inl (k2, 99, .inl (fun _ => 0))), (q3, .inl (k4, 99, .inl (fun _ => 0))), (q5, .inl (k6, 99, .inl (fun _ => 0))), (q7, .inl (k8, 990, .inl (fun _ => 0))), (q9, .inl (k10, 198, .inl (fun _ => 0))), (q11, .inl (k12, 640, .inr (.inl (fun _ => 0)))), (q13, .inl (k14, 640, .inr (.inl (fun _ => 0)))), (q15, .inl (k16, 640, .inr (.inl (fun _ => 0)))), (q17, .inl (k18, 6400, .inr (.inl (fun _ => 0))))] H := hP
  have hD : va_D A [(h0, .inr (7, [.ref q1, .ref q3, .ref q5, .ref q7, .ref q9, .ref q11, .ref q13, .ref q15, .null, .null, .null, .int 0, .null, .int 0, .int 0, .int 0, .int 0, .null, .int 0, .null, .null, .null, .null, .int 0, .int 0, .null])), (q1, .inl (k2, 99, .inl (fun _ => 0))), (q3, .inl (k4, 99, .inl (fun _ => 0))), (q5, .inl (k6, 99, .inl (fun _ => 0))), (q7, .inl (k8, 990, .inl (fun _ => 0))), (q9, .inl (k10, 198, .inl (fun _ => 0))), (q11, .inl (k12, 640, .inr (.inl (fun _ => 0)))), (q13, .inl (k14, 640, .inr (.inl (fun _ => 0)))), (q15, .inl (k16, 640, .inr (.inl (fun _ => 0)))), (q17, .inl (k18, 6400, .inr (.inl (fun _ => 0))))] := hD
  have hK : va_K (dC, dI) vwCl [(k2, .int), (k4, .int), (k6, .int), (k8, .int), (k10, .int), (k12, .long), (k14, .long), (k16, .long), (k18, .long)] s := hK
  refine W.widen (k := 9) (n := 9805) (Nat.le_of_ble_eq_true rfl) (Nat.le_of_ble_eq_true rfl) ?_
  refine va_putF (D := (dC, dI)) (ci := 7) (v := .ref q17) (ty := tyX7 8) (C := RX7) (T := TX7) (N := 26) hx hb hts inX7 tyX7 tyX7_ok nmX7 hown hK hP hD hS 0 rfl rfl 8 (by decide) (hts _ pq1123) (fun _ h9 => h9) rfl hin rfl (by decide +kernel) rfl rfl (Nat.le_of_ble_eq_true rfl) dX7_init_79 (fun H locs hP hD hS => ?_)
  have hP : va_P (dC, dI) vwCl [(h0, .inr (7, [.ref q1, .ref q3, .ref q5, .ref q7, .ref q9, .ref q11, .ref q13, .ref q15, .ref q17, .null, .null, .int 0, .null, .int 0, .int 0, .int 0, .int 0, .null, .int 0, .null, .null, .null, .null, .int 0, .int 0, .null])), (q1, .inl (k2, 99, .inl (fun _ => 0))), (q3, .inl (k4, 99, .inl (fun _ => 0))), (q5, .inl (k6, 99, .inl (fun _ => 0))), (q7, .inl (k8, 990, .inl (fun _ => 0))), (q9, .inl (k10, 198, .inl (fun _ => 0))), (q11, .inl (k12, 640, .inr (.inl (fun _ => 0)))), (q13, .inl (k14, 640, .inr (.inl (fun _ => 0)))), (q15, .inl (k16, 640, .inr (.inl (fun _ => 0)))), (q17, .inl (k18, 6400, .inr (.inl (fun _ => 0))))] H := hP
  have hD : va_D A [(h0, .inr (7, [.ref q1, .ref q3, .ref q5, .ref q7, .ref q9, .ref q11, .ref q13, .ref q15, .ref q17, .null, .null, .int 0, .null, .int 0, .int 0, .int 0, .int 0, .null, .int 0, .null, .null, .null, .null, .int 0, .int 0, .null])), (q1, .inl (k2, 99, .inl (fun _ => 0))), (q3, .inl (k4, 99, .inl (fun _ => 0))), (q5, .inl (k6, 99, .inl (fun _ => 0))), (q7, .inl (k8, 990, .inl (fun _ => 0))), (q9, .inl (k10, 198, .inl (fun _ => 0))), (q11, .inl (k12, 640, .inr (.inl (fun _ => 0)))), (q13, .inl (k14, 640, .inr (.inl (fun _ => 0)))), (q15, .inl (k16, 640, .inr (.inl (fun _ => 0)))), (q17, .inl (k18, 6400, .inr (.inl (fun _ => 0))))] := hD
  refine lv_aload_n hx hb dX7_init_82 rfl (lv_at hl 0 rfl) ?_
  refine lv_sipush (v := 1280) hx hb dX7_init_83 (by decide +kernel) ?_
  refine va_newa (atype := .long) (ty := .long) (a0 := (1280, .inr (.inl (fun _ => 0)))) hx hb (hts _ pq163) rfl hK hP hD hS hA (fun _ => rfl) (by decide +kernel) (by decide +kernel) (Nat.le_of_ble_eq_true rfl) (Nat.le_of_ble_eq_true rfl) (Nat.le_of_ble_eq_true rfl) dX7_init_86 (fun q19 k20 H hK hP hD hS => ?_)
  have hP : va_P (dC, dI) vwCl [(h0, .inr (7, [.ref q1, .ref q3, .ref q5, .ref q7, .ref q9, .ref q11, .ref q13, .ref q15, .ref q17, .null, .null, .int 0, .null, .int 0, .int 0, .int 0, .int 0, .null, .int 0, .null, .null, .null, .null, .int 0, .int 0, .null])), (q1, .inl (k2, 99, .inl (fun _ => 0))), (q3, .inl (k4, 99, .inl (fun _ => 0))), (q5, .inl (k6, 99, .inl (fun _ => 0))), (q7, .inl (k8, 990, .inl (fun _ => 0))), (q9, .inl (k10, 198, .inl (fun _ => 0))), (q11, .inl (k12, 640, .inr (.inl (fun _ => 0)))), (q13, .inl (k14, 640, .inr (.inl (fun _ => 0)))), (q15, .inl (k16, 640, .inr (.inl (fun _ => 0)))), (q17, .inl (k18, 6400, .inr (.inl (fun _ => 0)))), (q19, .inl (k20, 1280, .inr (.inl (fun _ => 0))))] H := hP
  have hD : va_D A [(h0, .inr (7, [.ref q1, .ref q3, .ref q5, .ref q7, .ref q9, .ref q11, .ref q13, .ref q15, .ref q17, .null, .null, .int 0, .null, .int 0, .int 0, .int 0, .int 0, .null, .int 0, .null, .null, .null, .null, .int 0, .int 0, .null])), (q1, .inl (k2, 99, .inl (fun _ => 0))), (q3, .inl (k4, 99, .inl (fun _ => 0))), (q5, .inl (k6, 99, .inl (fun _ => 0))), (q7, .inl (k8, 990, .inl (fun _ => 0))), (q9, .inl (k10, 198, .inl (fun _ => 0))), (q11, .inl (k12, 640, .inr (.inl (fun _ => 0)))), (q13, .inl (k14, 640, .inr (.inl (fun _ => 0)))), (q15, .inl (k16, 640, .inr (.inl (fun _ => 0)))), (q17, .inl (k18, 6400, .inr (.inl (fun _ => 0)))), (q19, .inl (k20, 1280, .inr (.inl (fun _ => 0))))] := hD
  have hK : va_K (dC, dI) vwCl [(k2, .int), (k4, .int), (k6, .int), (k8, .int), (k10, .int), (k12, .long), (k14, .long), (k16, .long), (k18, .long), (k20, .long)] s := hK
  refine W.widen (k := 10) (n := 11085) (Nat.le_of_ble_eq_true rfl) (Nat.le_of_ble_eq_true rfl) ?_
  refine va_putF (D := (dC, dI)) (ci := 7) (v := .ref q19) (ty := tyX7 9) (C := RX7) (T := TX7) (N := 26) hx hb hts inX7 tyX7 tyX7_ok nmX7 hown hK hP hD hS 0 rfl rfl 9 (by decide) (hts _ pq1124) (fun _ h9 => h9) rfl hin rfl (by decide +kernel) rfl rfl (Nat.le_of_ble_eq_true rfl) dX7_init_88 (fun H locs hP hD hS => ?_)
  have hP : va_P (dC, dI) vwCl [(h0, .inr (7, [.ref q1, .ref q3, .ref q5, .ref q7, .ref q9, .ref q11, .ref q13, .ref q15, .ref q17, .ref q19, .null, .int 0, .null, .int 0, .int 0, .int 0, .int 0, .null, .int 0, .null, .null, .null, .null, .int 0, .int 0, .null])), (q1, .inl (k2, 99, .inl (fun _ => 0))), (q3, .inl (k4, 99, .inl (fun _ => 0))), (q5, .inl (k6, 99, .inl (fun _ => 0))), (q7, .inl (k8, 990, .inl (fun _ => 0))), (q9, .inl (k10, 198, .inl (fun _ => 0))), (q11, .inl (k12, 640, .inr (.inl (fun _ => 0)))), (q13, .inl (k14, 640, .inr (.inl (fun _ => 0)))), (q15, .inl (k16, 640, .inr (.inl (fun _ => 0)))), (q17, .inl (k18, 6400, .inr (.inl (fun _ => 0)))), (q19, .inl (k20, 1280, .inr (.inl (fun _ => 0))))] H := hP
  have hD : va_D A [(h0, .inr (7, [.ref q1, .ref q3, .ref q5, .ref q7, .ref q9, .ref q11, .ref q13, .ref q15, .ref q17, .ref q19, .null, .int 0, .null, .int 0, .int 0, .int 0, .int 0, .null, .int 0, .null, .null, .null, .null, .int 0, .int 0, .null])), (q1, .inl (k2, 99, .inl (fun _ => 0))), (q3, .inl (k4, 99, .inl (fun _ => 0))), (q5, .inl (k6, 99, .inl (fun _ => 0))), (q7, .inl (k8, 990, .inl (fun _ => 0))), (q9, .inl (k10, 198, .inl (fun _ => 0))), (q11, .inl (k12, 640, .inr (.inl (fun _ => 0)))), (q13, .inl (k14, 640, .inr (.inl (fun _ => 0)))), (q15, .inl (k16, 640, .inr (.inl (fun _ => 0)))), (q17, .inl (k18, 6400, .inr (.inl (fun _ => 0)))), (q19, .inl (k20, 1280, .inr (.inl (fun _ => 0))))] := hD
  refine lv_aload_n hx hb dX7_init_91 rfl (lv_at hl 0 rfl) ?_
  refine lv_iconst (v := 2) hx hb dX7_init_92 (by decide +kernel) ?_
  refine va_newa (atype := .boolean) (ty := .boolean) (a0 := (2, .inl (fun _ => 0))) hx hb (hts _ pq1194) rfl hK hP hD hS hA (fun _ => rfl) (by decide +kernel) (by decide +kernel) (Nat.le_of_ble_eq_true rfl) (Nat.le_of_ble_eq_true rfl) (Nat.le_of_ble_eq_true rfl) dX7_init_93 (fun q21 k22 H hK hP hD hS => ?_)
  have hP : va_P (dC, dI) vwCl [(h0, .inr (7, [.ref q1, .ref q3, .ref q5, .ref q7, .ref q9, .ref q11, .ref q13, .ref q15, .ref q17, .ref q19, .null, .int 0, .null, .int 0, .int 0, .int 0, .int 0, .null, .int 0, .null, .null, .null, .null, .int 0, .int 0, .null])), (q1, .inl (k2, 99, .inl (fun _ => 0))), (q3, .inl (k4, 99, .inl (fun _ => 0))), (q5, .inl (k6, 99, .inl (fun _ => 0))), (q7, .inl (k8, 990, .inl (fun _ => 0))), (q9, .inl (k10, 198, .inl (fun _ => 0))), (q11, .inl (k12, 640, .inr (.inl (fun _ => 0)))), (q13, .inl (k14, 640, .inr (.inl (fun _ => 0)))), (q15, .inl (k16, 640, .inr (.inl (fun _ => 0)))), (q17, .inl (k18, 6400, .inr (.inl (fun _ => 0)))), (q19, .inl (k20, 1280, .inr (.inl (fun _ => 0)))), (q21, .inl (k22, 2, .inl (fun _ => 0)))] H := hP
  have hD : va_D A [(h0, .inr (7, [.ref q1, .ref q3, .ref q5, .ref q7, .ref q9, .ref q11, .ref q13, .ref q15, .ref q17, .ref q19, .null, .int 0, .null, .int 0, .int 0, .int 0, .int 0, .null, .int 0, .null, .null, .null, .null, .int 0, .int 0, .null])), (q1, .inl (k2, 99, .inl (fun _ => 0))), (q3, .inl (k4, 99, .inl (fun _ => 0))), (q5, .inl (k6, 99, .inl (fun _ => 0))), (q7, .inl (k8, 990, .inl (fun _ => 0))), (q9, .inl (k10, 198, .inl (fun _ => 0))), (q11, .inl (k12, 640, .inr (.inl (fun _ => 0)))), (q13, .inl (k14, 640, .inr (.inl (fun _ => 0)))), (q15, .inl (k16, 640, .inr (.inl (fun _ => 0)))), (q17, .inl (k18, 6400, .inr (.inl (fun _ => 0)))), (q19, .inl (k20, 1280, .inr (.inl (fun _ => 0)))), (q21, .inl (k22, 2, .inl (fun _ => 0)))] := hD
  have hK : va_K (dC, dI) vwCl [(k2, .int), (k4, .int), (k6, .int), (k8, .int), (k10, .int), (k12, .long), (k14, .long), (k16, .long), (k18, .long), (k20, .long), (k22, .boolean)] s := hK
  refine W.widen (k := 11) (n := 11087) (Nat.le_of_ble_eq_true rfl) (Nat.le_of_ble_eq_true rfl) ?_
  refine va_putF (D := (dC, dI)) (ci := 7) (v := .ref q21) (ty := tyX7 10) (C := RX7) (T := TX7) (N := 26) hx hb hts inX7 tyX7 tyX7_ok nmX7 hown hK hP hD hS 0 rfl rfl 10 (by decide) (hts _ pq1125) (fun _ h9 => h9) rfl hin rfl (by decide +kernel) rfl rfl (Nat.le_of_ble_eq_true rfl) dX7_init_95 (fun H locs hP hD hS => ?_)
  have hP : va_P (dC, dI) vwCl [(h0, .inr (7, [.ref q1, .ref q3, .ref q5, .ref q7, .ref q9, .ref q11, .ref q13, .ref q15, .ref q17, .ref q19, .ref q21, .int 0, .null, .int 0, .int 0, .int 0, .int 0, .null, .int 0, .null, .null, .null, .null, .int 0, .int 0, .null])), (q1, .inl (k2, 99, .inl (fun _ => 0))), (q3, .inl (k4, 99, .inl (fun _ => 0))), (q5, .inl (k6, 99, .inl (fun _ => 0))), (q7, .inl (k8, 990, .inl (fun _ => 0))), (q9, .inl (k10, 198, .inl (fun _ => 0))), (q11, .inl (k12, 640, .inr (.inl (fun _ => 0)))), (q13, .inl (k14, 640, .inr (.inl (fun _ => 0)))), (q15, .inl (k16, 640, .inr (.inl (fun _ => 0)))), (q17, .inl (k18, 6400, .inr (.inl (fun _ => 0)))), (q19, .inl (k20, 1280, .inr (.inl (fun _ => 0)))), (q21, .inl (k22, 2, .inl (fun _ => 0)))] H := hP
  have hD : va_D A [(h0, .inr (7, [.ref q1, .ref q3, .ref q5, .ref q7, .ref q9, .ref q11, .ref q13, .ref q15, .ref q17, .ref q19, .ref q21, .int 0, .null, .int 0, .int 0, .int 0, .int 0, .null, .int 0, .null, .null, .null, .null, .int 0, .int 0, .null])), (q1, .inl (k2, 99, .inl (fun _ => 0))), (q3, .inl (k4, 99, .inl (fun _ => 0))), (q5, .inl (k6, 99, .inl (fun _ => 0))), (q7, .inl (k8, 990, .inl (fun _ => 0))), (q9, .inl (k10, 198, .inl (fun _ => 0))), (q11, .inl (k12, 640, .inr (.inl (fun _ => 0)))), (q13, .inl (k14, 640, .inr (.inl (fun _ => 0)))), (q15, .inl (k16, 640, .inr (.inl (fun _ => 0)))), (q17, .inl (k18, 6400, .inr (.inl (fun _ => 0)))), (q19, .inl (k20, 1280, .inr (.inl (fun _ => 0)))), (q21, .inl (k22, 2, .inl (fun _ => 0)))] := hD
  refine lv_aload_n hx hb dX7_init_98 rfl (lv_at hl 0 rfl) ?_
  refine lv_sipush (v := 400) hx hb dX7_init_99 (by decide +kernel) ?_
  refine va_newa (atype := .byte) (ty := .byte) (a0 := (400, .inl (fun _ => 0))) hx hb (hts _ pq162) rfl hK hP hD hS hA (fun _ => rfl) (by decide +kernel) (by decide +kernel) (Nat.le_of_ble_eq_true rfl) (Nat.le_of_ble_eq_true rfl) (Nat.le_of_ble_eq_true rfl) dX7_init_102 (fun q23 k24 H hK hP hD hS => ?_)
  have hP : va_P (dC, dI) vwCl [(h0, .inr (7, [.ref q1, .ref q3, .ref q5, .ref q7, .ref q9, .ref q11, .ref q13, .ref q15, .ref q17, .ref q19, .ref q21, .int 0, .null, .int 0, .int 0, .int 0, .int 0, .null, .int 0, .null, .null, .null, .null, .int 0, .int 0, .null])), (q1, .inl (k2, 99, .inl (fun _ => 0))), (q3, .inl (k4, 99, .inl (fun _ => 0))), (q5, .inl (k6, 99, .inl (fun _ => 0))), (q7, .inl (k8, 990, .inl (fun _ => 0))), (q9, .inl (k10, 198, .inl (fun _ => 0))), (q11, .inl (k12, 640, .inr (.inl (fun _ => 0)))), (q13, .inl (k14, 640, .inr (.inl (fun _ => 0)))), (q15, .inl (k16, 640, .inr (.inl (fun _ => 0)))), (q17, .inl (k18, 6400, .inr (.inl (fun _ => 0)))), (q19, .inl (k20, 1280, .inr (.inl (fun _ => 0)))), (q21, .inl (k22, 2, .inl (fun _ => 0))), (q23, .inl (k24, 400, .inl (fun _ => 0)))] H := hP
  have hD : va_D A [(h0, .inr (7, [.ref q1, .ref q3, .ref q5, .ref q7, .ref q9, .ref q11, .ref q13, .ref q15, .ref q17, .ref q19, .ref q21, .int 0, .null, .int 0, .int 0, .int 0, .int 0, .null, .int 0, .null, .null, .null, .null, .int 0, .int 0, .null])), (q1, .inl (k2, 99, .inl (fun _ => 0))), (q3, .inl (k4, 99, .inl (fun _ => 0))), (q5, .inl (k6, 99, .inl (fun _ => 0))), (q7, .inl (k8, 990, .inl (fun _ => 0))), (q9, .inl (k10, 198, .inl (fun _ => 0))), (q11, .inl (k12, 640, .inr (.inl (fun _ => 0)))), (q13, .inl (k14, 640, .inr (.inl (fun _ => 0)))), (q15, .inl (k16, 640, .inr (.inl (fun _ => 0)))), (q17, .inl (k18, 6400, .inr (.inl (fun _ => 0)))), (q19, .inl (k20, 1280, .inr (.inl (fun _ => 0)))), (q21, .inl (k22, 2, .inl (fun _ => 0))), (q23, .inl (k24, 400, .inl (fun _ => 0)))] := hD
  have hK : va_K (dC, dI) vwCl [(k2, .int), (k4, .int), (k6, .int), (k8, .int), (k10, .int), (k12, .long), (k14, .long), (k16, .long), (k18, .long), (k20, .long), (k22, .boolean), (k24, .byte)] s := hK
  refine W.widen (k := 12) (n := 11487) (Nat.le_of_ble_eq_true rfl) (Nat.le_of_ble_eq_true rfl) ?_
  refine va_putF (D := (dC, dI)) (ci := 7) (v := .ref q23) (ty := tyX7 12) (C := RX7) (T := TX7) (N := 26) hx hb hts inX7 tyX7 tyX7_ok nmX7 hown hK hP hD hS 0 rfl rfl 12 (by decide) (hts _ pq1127) (fun _ h9 => h9) rfl hin rfl (by decide +kernel) rfl rfl (Nat.le_of_ble_eq_true rfl) dX7_init_104 (fun H locs hP hD hS => ?_)
  have hP : va_P (dC, dI) vwCl [(h0, .inr (7, [.ref q1, .ref q3, .ref q5, .ref q7, .ref q9, .ref q11, .ref q13, .ref q15, .ref q17, .ref q19, .ref q21, .int 0, .ref q23, .int 0, .int 0, .int 0, .int 0, .null, .int 0, .null, .null, .null, .null, .int 0, .int 0, .null])), (q1, .inl (k2, 99, .inl (fun _ => 0))), (q3, .inl (k4, 99, .inl (fun _ => 0))), (q5, .inl (k6, 99, .inl (fun _ => 0))), (q7, .inl (k8, 990, .inl (fun _ => 0))), (q9, .inl (k10, 198, .inl (fun _ => 0))), (q11, .inl (k12, 640, .inr (.inl (fun _ => 0)))), (q13, .inl (k14, 640, .inr (.inl (fun _ => 0)))), (q15, .inl (k16, 640, .inr (.inl (fun _ => 0)))), (q17, .inl (k18, 6400, .inr (.inl (fun _ => 0)))), (q19, .inl (k20, 1280, .inr (.inl (fun _ => 0)))), (q21, .inl (k22, 2, .inl (fun _ => 0))), (q23, .inl (k24, 400, .inl (fun _ => 0)))] H := hP
  have hD : va_D A [(h0, .inr (7, [.ref q1, .ref q3, .ref q5, .ref q7, .ref q9, .ref q11, .ref q13, .ref q15, .ref q17, .ref q19, .ref q21, .int 0, .ref q23, .int 0, .int 0, .int 0, .int 0, .null, .int 0, .null, .null, .null, .null, .int 0, .int 0, .null])), (q1, .inl (k2, 99, .inl (fun _ => 0))), (q3, .inl (k4, 99, .inl (fun _ => 0))), (q5, .inl (k6, 99, .inl (fun _ => 0))), (q7, .inl (k8, 990, .inl (fun _ => 0))), (q9, .inl (k10, 198, .inl (fun _ => 0))), (q11, .inl (k12, 640, .inr (.inl (fun _ => 0)))), (q13, .inl (k14, 640, .inr (.inl (fun _ => 0)))), (q15, .inl (k16, 640, .inr (.inl (fun _ => 0)))), (q17, .inl (k18, 6400, .inr (.inl (fun _ => 0)))), (q19, .inl (k20, 1280, .inr (.inl (fun _ => 0)))), (q21, .inl (k22, 2, .inl (fun _ => 0))), (q23, .inl (k24, 400, .inl (fun _ => 0)))] := hD
  refine lv_aload_n hx hb dX7_init_107 rfl (lv_at hl 0 rfl) ?_
  refine lv_sipush (v := 800) hx hb dX7_init_108 (by decide +kernel) ?_
  refine va_newa (atype := .long) (ty := .long) (a0 := (800, .inr (.inl (fun _ => 0)))) hx hb (hts _ pq163) rfl hK hP hD hS hA (fun _ => rfl) (by decide +kernel) (by decide +kernel) (Nat.le_of_ble_eq_true rfl) (Nat.le_of_ble_eq_true rfl) (Nat.le_of_ble_eq_true rfl) dX7_init_111 (fun q25 k26 H hK hP hD hS => ?_)
  have hP : va_P (dC, dI) vwCl [(h0, .inr (7, [.ref q1, .ref q3, .ref q5, .ref q7, .ref q9, .ref q11, .ref q13, .ref q15, .ref q17, .ref q19, .ref q21, .int 0, .ref q23, .int 0, .int 0, .int 0, .int 0, .null, .int 0, .null, .null, .null, .null, .int 0, .int 0, .null])), (q1, .inl (k2, 99, .inl (fun _ => 0))), (q3, .inl (k4, 99, .inl (fun _ => 0))), (q5, .inl (k6, 99, .inl (fun _ => 0))), (q7, .inl (k8, 990, .inl (fun _ => 0))), (q9, .inl (k10, 198, .inl (fun _ => 0))), (q11, .inl (k12, 640, .inr (.inl (fun _ => 0)))), (q13, .inl (k14, 640, .inr (.inl (fun _ => 0)))), (q15, .inl (k16, 640, .inr (.inl (fun _ => 0)))), (q17, .inl (k18, 6400, .inr (.inl (fun _ => 0)))), (q19, .inl (k20, 1280, .inr (.inl (fun _ => 0)))), (q21, .inl (k22, 2, .inl (fun _ => 0))), (q23, .inl (k24, 400, .inl (fun _ => 0))), (q25, .inl (k26, 800, .inr (.inl (fun _ => 0))))] H := hP
  have hD : va_D A [(h0, .inr (7, [.ref q1, .ref q3, .ref q5, .ref q7, .ref q9, .ref q11, .ref q13, .ref q15, .ref q17, .ref q19, .ref q21, .int 0, .ref q23, .int 0, .int 0, .int 0, .int 0, .null, .int 0, .null, .null, .null, .null, .int 0, .int 0, .null])), (q1, .inl (k2, 99, .inl (fun _ => 0))), (q3, .inl (k4, 99, .inl (fun _ => 0))), (q5, .inl (k6, 99, .inl (fun _ => 0))), (q7, .inl (k8, 990, .inl (fun _ => 0))), (q9, .inl (k10, 198, .inl (fun _ => 0))), (q11, .inl (k12, 640, .inr (.inl (fun _ => 0)))), (q13, .inl (k14, 640, .inr (.inl (fun _ => 0)))), (q15, .inl (k16, 640, .inr (.inl (fun _ => 0)))), (q17, .inl (k18, 6400, .inr (.inl (fun _ => 0)))), (q19, .inl (k20, 1280, .inr (.inl (fun _ => 0)))), (q21, .inl (k22, 2, .inl (fun _ => 0))), (q23, .inl (k24, 400, .inl (fun _ => 0))), (q25, .inl (k26, 800, .inr (.inl (fun _ => 0))))] := hD
  have hK : va_K (dC, dI) vwCl [(k2, .int), (k4, .int), (k6, .int), (k8, .int), (k10, .int), (k12, .long), (k14, .long), (k16, .long), (k18, .long), (k20, .long), (k22, .boolean), (k24, .byte), (k26, .long)] s := hK
  refine W.widen (k := 13) (n := 12287) (Nat.le_of_ble_eq_true rfl) (Nat.le_of_ble_eq_true rfl) ?_
  refine va_putF (D := (dC, dI)) (ci := 7) (v := .ref q25) (ty := tyX7 17) (C := RX7) (T := TX7) (N := 26) hx hb hts inX7 tyX7 tyX7_ok nmX7 hown hK hP hD hS 0 rfl rfl 17 (by decide) (hts _ pq1132) (fun _ h9 => h9) rfl hin rfl (by decide +kernel) rfl rfl (Nat.le_of_ble_eq_true rfl) dX7_init_113 (fun H locs hP hD hS => ?_)
  have hP : va_P (dC, dI) vwCl [(h0, .inr (7, [.ref q1, .ref q3, .ref q5, .ref q7, .ref q9, .ref q11, .ref q13, .ref q15, .ref q17, .ref q19, .ref q21, .int 0, .ref q23, .int 0, .int 0, .int 0, .int 0, .ref q25, .int 0, .null, .null, .null, .null, .int 0, .int 0, .null])), (q1, .inl (k2, 99, .inl (fun _ => 0))), (q3, .inl (k4, 99, .inl (fun _ => 0))), (q5, .inl (k6, 99, .inl (fun _ => 0))), (q7, .inl (k8, 990, .inl (fun _ => 0))), (q9, .inl (k10, 198, .inl (fun _ => 0))), (q11, .inl (k12, 640, .inr (.inl (fun _ => 0)))), (q13, .inl (k14, 640, .inr (.inl (fun _ => 0)))), (q15, .inl (k16, 640, .inr (.inl (fun _ => 0)))), (q17, .inl (k18, 6400, .inr (.inl (fun _ => 0)))), (q19, .inl (k20, 1280, .inr (.inl (fun _ => 0)))), (q21, .inl (k22, 2, .inl (fun _ => 0))), (q23, .inl (k24, 400, .inl (fun _ => 0))), (q25, .inl (k26, 800, .inr (.inl (fun _ => 0))))] H := hP
  have hD : va_D A [(h0, .inr (7, [.ref q1, .ref q3, .ref q5, .ref q7, .ref q9, .ref q11, .ref q13, .ref q15, .ref q17, .ref q19, .ref q21, .int 0, .ref q23, .int 0, .int 0, .int 0, .int 0, .ref q25, .int 0, .null, .null, .null, .null, .int 0, .int 0, .null])), (q1, .inl (k2, 99, .inl (fun _ => 0))), (q3, .inl (k4, 99, .inl (fun _ => 0))), (q5, .inl (k6, 99, .inl (fun _ => 0))), (q7, .inl (k8, 990, .inl (fun _ => 0))), (q9, .inl (k10, 198, .inl (fun _ => 0))), (q11, .inl (k12, 640, .inr (.inl (fun _ => 0)))), (q13, .inl (k14, 640, .inr (.inl (fun _ => 0)))), (q15, .inl (k16, 640, .inr (.inl (fun _ => 0)))), (q17, .inl (k18, 6400, .inr (.inl (fun _ => 0)))), (q19, .inl (k20, 1280, .inr (.inl (fun _ => 0)))), (q21, .inl (k22, 2, .inl (fun _ => 0))), (q23, .inl (k24, 400, .inl (fun _ => 0))), (q25, .inl (k26, 800, .inr (.inl (fun _ => 0))))] := hD
  refine lv_aload_n hx hb dX7_init_116 rfl (lv_at hl 0 rfl) ?_
  refine lv_bipush (v := 80) hx hb dX7_init_117 (by decide +kernel) ?_
  refine va_newa (atype := .long) (ty := .long) (a0 := (80, .inr (.inl (fun _ => 0)))) hx hb (hts _ pq163) rfl hK hP hD hS hA (fun _ => rfl) (by decide +kernel) (by decide +kernel) (Nat.le_of_ble_eq_true rfl) (Nat.le_of_ble_eq_true rfl) (Nat.le_of_ble_eq_true rfl) dX7_init_119 (fun q27 k28 H hK hP hD hS => ?_)
  have hP : va_P (dC, dI) vwCl [(h0, .inr (7, [.ref q1, .ref q3, .ref q5, .ref q7, .ref q9, .ref q11, .ref q13, .ref q15, .ref q17, .ref q19, .ref q21, .int 0, .ref q23, .int 0, .int 0, .int 0, .int 0, .ref q25, .int 0, .null, .null, .null, .null, .int 0, .int 0, .null])), (q1, .inl (k2, 99, .inl (fun _ => 0))), (q3, .inl (k4, 99, .inl (fun _ => 0))), (q5, .inl (k6, 99, .inl (fun _ => 0))), (q7, .inl (k8, 990, .inl (fun _ => 0))), (q9, .inl (k10, 198, .inl (fun _ => 0))), (q11, .inl (k12, 640, .inr (.inl (fun _ => 0)))), (q13, .inl (k14, 640, .inr (.inl (fun _ => 0)))), (q15, .inl (k16, 640, .inr (.inl (fun _ => 0)))), (q17, .inl (k18, 6400, .inr (.inl (fun _ => 0)))), (q19, .inl (k20, 1280, .inr (.inl (fun _ => 0)))), (q21, .inl (k22, 2, .inl (fun _ => 0))), (q23, .inl (k24, 400, .inl (fun _ => 0))), (q25, .inl (k26, 800, .inr (.inl (fun _ => 0)))), (q27, .inl (k28, 80, .inr (.inl (fun _ => 0))))] H := hP
  have hD : va_D A [(h0, .inr (7, [.ref q1, .ref q3, .ref q5, .ref q7, .ref q9, .ref q11, .ref q13, .ref q15, .ref q17, .ref q19, .ref q21, .int 0, .ref q23, .int 0, .int 0, .int 0, .int 0, .ref q25, .int 0, .null, .null, .null, .null, .int 0, .int 0, .null])), (q1, .inl (k2, 99, .inl (fun _ => 0))), (q3, .inl (k4, 99, .inl (fun _ => 0))), (q5, .inl (k6, 99, .inl (fun _ => 0))), (q7, .inl (k8, 990, .inl (fun _ => 0))), (q9, .inl (k10, 198, .inl (fun _ => 0))), (q11, .inl (k12, 640, .inr (.inl (fun _ => 0)))), (q13, .inl (k14, 640, .inr (.inl (fun _ => 0)))), (q15, .inl (k16, 640, .inr (.inl (fun _ => 0)))), (q17, .inl (k18, 6400, .inr (.inl (fun _ => 0)))), (q19, .inl (k20, 1280, .inr (.inl (fun _ => 0)))), (q21, .inl (k22, 2, .inl (fun _ => 0))), (q23, .inl (k24, 400, .inl (fun _ => 0))), (q25, .inl (k26, 800, .inr (.inl (fun _ => 0)))), (q27, .inl (k28, 80, .inr (.inl (fun _ => 0))))] := hD
  have hK : va_K (dC, dI) vwCl [(k2, .int), (k4, .int), (k6, .int), (k8, .int), (k10, .int), (k12, .long), (k14, .long), (k16, .long), (k18, .long), (k20, .long), (k22, .boolean), (k24, .byte), (k26, .long), (k28, .long)] s := hK
  refine W.widen (k := 14) (n := 12367) (Nat.le_of_ble_eq_true rfl) (Nat.le_of_ble_eq_true rfl) ?_
  refine va_putF (D := (dC, dI)) (ci := 7) (v := .ref q27) (ty := tyX7 19) (C := RX7) (T := TX7) (N := 26) hx hb hts inX7 tyX7 tyX7_ok nmX7 hown hK hP hD hS 0 rfl rfl 19 (by decide) (hts _ pq1134) (fun _ h9 => h9) rfl hin rfl (by decide +kernel) rfl rfl (Nat.le_of_ble_eq_true rfl) dX7_init_121 (fun H locs hP hD hS => ?_)
  have hP : va_P (dC, dI) vwCl [(h0, .inr (7, [.ref q1, .ref q3, .ref q5, .ref q7, .ref q9, .ref q11, .ref q13, .ref q15, .ref q17, .ref q19, .ref q21, .int 0, .ref q23, .int 0, .int 0, .int 0, .int 0, .ref q25, .int 0, .ref q27, .null, .null, .null, .int 0, .int 0, .null])), (q1, .inl (k2, 99, .inl (fun _ => 0))), (q3, .inl (k4, 99, .inl (fun _ => 0))), (q5, .inl (k6, 99, .inl (fun _ => 0))), (q7, .inl (k8, 990, .inl (fun _ => 0))), (q9, .inl (k10, 198, .inl (fun _ => 0))), (q11, .inl (k12, 640, .inr (.inl (fun _ => 0)))), (q13, .inl (k14, 640, .inr (.inl (fun _ => 0)))), (q15, .inl (k16, 640, .inr (.inl (fun _ => 0)))), (q17, .inl (k18, 6400, .inr (.inl (fun _ => 0)))), (q19, .inl (k20, 1280, .inr (.inl (fun _ => 0)))), (q21, .inl (k22, 2, .inl (fun _ => 0))), (q23, .inl (k24, 400, .inl (fun _ => 0))), (q25, .inl (k26, 800, .inr (.inl (fun _ => 0)))), (q27, .inl (k28, 80, .inr (.inl (fun _ => 0))))] H := hP
  have hD : va_D A [(h0, .inr (7, [.ref q1, .ref q3, .ref q5, .ref q7, .ref q9, .ref q11, .ref q13, .ref q15, .ref q17, .ref q19, .ref q21, .int 0, .ref q23, .int 0, .int 0, .int 0, .int 0, .ref q25, .int 0, .ref q27, .null, .null, .null, .int 0, .int 0, .null])), (q1, .inl (k2, 99, .inl (fun _ => 0))), (q3, .inl (k4, 99, .inl (fun _ => 0))), (q5, .inl (k6, 99, .inl (fun _ => 0))), (q7, .inl (k8, 990, .inl (fun _ => 0))), (q9, .inl (k10, 198, .inl (fun _ => 0))), (q11, .inl (k12, 640, .inr (.inl (fun _ => 0)))), (q13, .inl (k14, 640, .inr (.inl (fun _ => 0)))), (q15, .inl (k16, 640, .inr (.inl (fun _ => 0)))), (q17, .inl (k18, 6400, .inr (.inl (fun _ => 0)))), (q19, .inl (k20, 1280, .inr (.inl (fun _ => 0)))), (q21, .inl (k22, 2, .inl (fun _ => 0))), (q23, .inl (k24, 400, .inl (fun _ => 0))), (q25, .inl (k26, 800, .inr (.inl (fun _ => 0)))), (q27, .inl (k28, 80, .inr (.inl (fun _ => 0))))] := hD
  refine lv_aload_n hx hb dX7_init_124 rfl (lv_at hl 0 rfl) ?_
  refine lv_iconst (v := 4) hx hb dX7_init_125 (by decide +kernel) ?_
  refine va_newa (atype := .int) (ty := .int) (a0 := (4, .inl (fun _ => 0))) hx hb (hts _ pq347) rfl hK hP hD hS hA (fun _ => rfl) (by decide +kernel) (by decide +kernel) (Nat.le_of_ble_eq_true rfl) (Nat.le_of_ble_eq_true rfl) (Nat.le_of_ble_eq_true rfl) dX7_init_126 (fun q29 k30 H hK hP hD hS => ?_)
  have hP : va_P (dC, dI) vwCl [(h0, .inr (7, [.ref q1, .ref q3, .ref q5, .ref q7, .ref q9, .ref q11, .ref q13, .ref q15, .ref q17, .ref q19, .ref q21, .int 0, .ref q23, .int 0, .int 0, .int 0, .int 0, .ref q25, .int 0, .ref q27, .null, .null, .null, .int 0, .int 0, .null])), (q1, .inl (k2, 99, .inl (fun _ => 0))), (q3, .inl (k4, 99, .inl (fun _ => 0))), (q5, .inl (k6, 99, .inl (fun _ => 0))), (q7, .inl (k8, 990, .inl (fun _ => 0))), (q9, .inl (k10, 198, .inl (fun _ => 0))), (q11, .inl (k12, 640, .inr (.inl (fun _ => 0)))), (q13, .inl (k14, 640, .inr (.inl (fun _ => 0)))), (q15, .inl (k16, 640, .inr (.inl (fun _ => 0)))), (q17, .inl (k18, 6400, .inr (.inl (fun _ => 0)))), (q19, .inl (k20, 1280, .inr (.inl (fun _ => 0)))), (q21, .inl (k22, 2, .inl (fun _ => 0))), (q23, .inl (k24, 400, .inl (fun _ => 0))), (q25, .inl (k26, 800, .inr (.inl (fun _ => 0)))), (q27, .inl (k28, 80, .inr (.inl (fun _ => 0)))), (q29, .inl (k30, 4, .inl (fun _ => 0)))] H := hP
  have hD : va_D A [(h0, .inr (7, [.ref q1, .ref q3, .ref q5, .ref q7, .ref q9, .ref q11, .ref q13, .ref q15, .ref q17, .ref q19, .ref q21, .int 0, .ref q23, .int 0, .int 0, .int 0, .int 0, .ref q25, .int 0, .ref q27, .null, .null, .null, .int 0, .int 0, .null])), (q1, .inl (k2, 99, .inl (fun _ => 0))), (q3, .inl (k4, 99, .inl (fun _ => 0))), (q5, .inl (k6, 99, .inl (fun _ => 0))), (q7, .inl (k8, 990, .inl (fun _ => 0))), (q9, .inl (k10, 198, .inl (fun _ => 0))), (q11, .inl (k12, 640, .inr (.inl (fun _ => 0)))), (q13, .inl (k14, 640, .inr (.inl (fun _ => 0)))), (q15, .inl (k16, 640, .inr (.inl (fun _ => 0)))), (q17, .inl (k18, 6400, .inr (.inl (fun _ => 0)))), (q19, .inl (k20, 1280, .inr (.inl (fun _ => 0)))), (q21, .inl (k22, 2, .inl (fun _ => 0))), (q23, .inl (k24, 400, .inl (fun _ => 0))), (q25, .inl (k26, 800, .inr (.inl (fun _ => 0)))), (q27, .inl (k28, 80, .inr (.inl (fun _ => 0)))), (q29, .inl (k30, 4, .inl (fun _ => 0)))] := hD
  have hK : va_K (dC, dI) vwCl [(k2, .int), (k4, .int), (k6, .int), (k8, .int), (k10, .int), (k12, .long), (k14, .long), (k16, .long), (k18, .long), (k20, .long), (k22, .boolean), (k24, .byte), (k26, .long), (k28, .long), (k30, .int)] s := hK
  refine W.widen (k := 15) (n := 12371) (Nat.le_of_ble_eq_true rfl) (Nat.le_of_ble_eq_true rfl) ?_
  refine va_putF (D := (dC, dI)) (ci := 7) (v := .ref q29) (ty := tyX7 20) (C := RX7) (T := TX7) (N := 26) hx hb hts inX7 tyX7 tyX7_ok nmX7 hown hK hP hD hS 0 rfl rfl 20 (by decide) (hts _ pq1135) (fun _ h9 => h9) rfl hin rfl (by decide +kernel) rfl rfl (Nat.le_of_ble_eq_true rfl) dX7_init_128 (fun H locs hP hD hS => ?_)
  have hP : va_P (dC, dI) vwCl [(h0, .inr (7, [.ref q1, .ref q3, .ref q5, .ref q7, .ref q9, .ref q11, .ref q13, .ref q15, .ref q17, .ref q19, .ref q21, .int 0, .ref q23, .int 0, .int 0, .int 0, .int 0, .ref q25, .int 0, .ref q27, .ref q29, .null, .null, .int 0, .int 0, .null])), (q1, .inl (k2, 99, .inl (fun _ => 0))), (q3, .inl (k4, 99, .inl (fun _ => 0))), (q5, .inl (k6, 99, .inl (fun _ => 0))), (q7, .inl (k8, 990, .inl (fun _ => 0))), (q9, .inl (k10, 198, .inl (fun _ => 0))), (q11, .inl (k12, 640, .inr (.inl (fun _ => 0)))), (q13, .inl (k14, 640, .inr (.inl (fun _ => 0)))), (q15, .inl (k16, 640, .inr (.inl (fun _ => 0)))), (q17, .inl (k18, 6400, .inr (.inl (fun _ => 0)))), (q19, .inl (k20, 1280, .inr (.inl (fun _ => 0)))), (q21, .inl (k22, 2, .inl (fun _ => 0))), (q23, .inl (k24, 400, .inl (fun _ => 0))), (q25, .inl (k26, 800, .inr (.inl (fun _ => 0)))), (q27, .inl (k28, 80, .inr (.inl (fun _ => 0)))), (q29, .inl (k30, 4, .inl (fun _ => 0)))] H := hP
  have hD : va_D A [(h0, .inr (7, [.ref q1, .ref q3, .ref q5, .ref q7, .ref q9, .ref q11, .ref q13, .ref q15, .ref q17, .ref q19, .ref q21, .int 0, .ref q23, .int 0, .int 0, .int 0, .int 0, .ref q25, .int 0, .ref q27, .ref q29, .null, .null, .int 0, .int 0, .null])), (q1, .inl (k2, 99, .inl (fun _ => 0))), (q3, .inl (k4, 99, .inl (fun _ => 0))), (q5, .inl (k6, 99, .inl (fun _ => 0))), (q7, .inl (k8, 990, .inl (fun _ => 0))), (q9, .inl (k10, 198, .inl (fun _ => 0))), (q11, .inl (k12, 640, .inr (.inl (fun _ => 0)))), (q13, .inl (k14, 640, .inr (.inl (fun _ => 0)))), (q15, .inl (k16, 640, .inr (.inl (fun _ => 0)))), (q17, .inl (k18, 6400, .inr (.inl (fun _ => 0)))), (q19, .inl (k20, 1280, .inr (.inl (fun _ => 0)))), (q21, .inl (k22, 2, .inl (fun _ => 0))), (q23, .inl (k24, 400, .inl (fun _ => 0))), (q25, .inl (k26, 800, .inr (.inl (fun _ => 0)))), (q27, .inl (k28, 80, .inr (.inl (fun _ => 0)))), (q29, .inl (k30, 4, .inl (fun _ => 0)))] := hD
  refine lv_aload_n hx hb dX7_init_131 rfl (lv_at hl 0 rfl) ?_
  refine lv_sipush (v := 4000) hx hb dX7_init_132 (by decide +kernel) ?_
  refine va_newa (atype := .int) (ty := .int) (a0 := (4000, .inl (fun _ => 0))) hx hb (hts _ pq347) rfl hK hP hD hS hA (fun _ => rfl) (by decide +kernel) (by decide +kernel) (Nat.le_of_ble_eq_true rfl) (Nat.le_of_ble_eq_true rfl) (Nat.le_of_ble_eq_true rfl) dX7_init_135 (fun q31 k32 H hK hP hD hS => ?_)
  have hP : va_P (dC, dI) vwCl [(h0, .inr (7, [.ref q1, .ref q3, .ref q5, .ref q7, .ref q9, .ref q11, .ref q13, .ref q15, .ref q17, .ref q19, .ref q21, .int 0, .ref q23, .int 0, .int 0, .int 0, .int 0, .ref q25, .int 0, .ref q27, .ref q29, .null, .null, .int 0, .int 0, .null])), (q1, .inl (k2, 99, .inl (fun _ => 0))), (q3, .inl (k4, 99, .inl (fun _ => 0))), (q5, .inl (k6, 99, .inl (fun _ => 0))), (q7, .inl (k8, 990, .inl (fun _ => 0))), (q9, .inl (k10, 198, .inl (fun _ => 0))), (q11, .inl (k12, 640, .inr (.inl (fun _ => 0)))), (q13, .inl (k14, 640, .inr (.inl (fun _ => 0)))), (q15, .inl (k16, 640, .inr (.inl (fun _ => 0)))), (q17, .inl (k18, 6400, .inr (.inl (fun _ => 0)))), (q19, .inl (k20, 1280, .inr (.inl (fun _ => 0)))), (q21, .inl (k22, 2, .inl (fun _ => 0))), (q23, .inl (k24, 400, .inl (fun _ => 0))), (q25, .inl (k26, 800, .inr (.inl (fun _ => 0)))), (q27, .inl (k28, 80, .inr (.inl (fun _ => 0)))), (q29, .inl (k30, 4, .inl (fun _ => 0))), (q31, .inl (k32, 4000, .inl (fun _ => 0)))] H := hP
  have hD : va_D A [(h0, .inr (7, [.ref q1, .ref q3, .ref q5, .ref q7, .ref q9, .ref q11, .ref q13, .ref q15, .ref q17, .ref q19, .ref q21, .int 0, .ref q23, .int 0, .int 0, .int 0, .int 0, .ref q25, .int 0, .ref q27, .ref q29, .null, .null, .int 0, .int 0, .null])), (q1, .inl (k2, 99, .inl (fun _ => 0))), (q3, .inl (k4, 99, .inl (fun _ => 0))), (q5, .inl (k6, 99, .inl (fun _ => 0))), (q7, .inl (k8, 990, .inl (fun _ => 0))), (q9, .inl (k10, 198, .inl (fun _ => 0))), (q11, .inl (k12, 640, .inr (.inl (fun _ => 0)))), (q13, .inl (k14, 640, .inr (.inl (fun _ => 0)))), (q15, .inl (k16, 640, .inr (.inl (fun _ => 0)))), (q17, .inl (k18, 6400, .inr (.inl (fun _ => 0)))), (q19, .inl (k20, 1280, .inr (.inl (fun _ => 0)))), (q21, .inl (k22, 2, .inl (fun _ => 0))), (q23, .inl (k24, 400, .inl (fun _ => 0))), (q25, .inl (k26, 800, .inr (.inl (fun _ => 0)))), (q27, .inl (k28, 80, .inr (.inl (fun _ => 0)))), (q29, .inl (k30, 4, .inl (fun _ => 0))), (q31, .inl (k32, 4000, .inl (fun _ => 0)))] := hD
  have hK : va_K (dC, dI) vwCl [(k2, .int), (k4, .int), (k6, .int), (k8, .int), (k10, .int), (k12, .long), (k14, .long), (k16, .long), (k18, .long), (k20, .long), (k22, .boolean), (k24, .byte), (k26, .long), (k28, .long), (k30, .int), (k32, .int)] s := hK
  refine W.widen (k := 16) (n := 16371) (Nat.le_of_ble_eq_true rfl) (Nat.le_of_ble_eq_true rfl) ?_
  refine va_putF (D := (dC, dI)) (ci := 7) (v := .ref q31) (ty := tyX7 21) (C := RX7) (T := TX7) (N := 26) hx hb hts inX7 tyX7 tyX7_ok nmX7 hown hK hP hD hS 0 rfl rfl 21 (by decide) (hts _ pq1136) (fun _ h9 => h9) rfl hin rfl (by decide +kernel) rfl rfl (Nat.le_of_ble_eq_true rfl) dX7_init_137 (fun H locs hP hD hS => ?_)
  have hP : va_P (dC, dI) vwCl [(h0, .inr (7, [.ref q1, .ref q3, .ref q5, .ref q7, .ref q9, .ref q11, .ref q13, .ref q15, .ref q17, .ref q19, .ref q21, .int 0, .ref q23, .int 0, .int 0, .int 0, .int 0, .ref q25, .int 0, .ref q27, .ref q29, .ref q31, .null, .int 0, .int 0, .null])), (q1, .inl (k2, 99, .inl (fun _ => 0))), (q3, .inl (k4, 99, .inl (fun _ => 0))), (q5, .inl (k6, 99, .inl (fun _ => 0))), (q7, .inl (k8, 990, .inl (fun _ => 0))), (q9, .inl (k10, 198, .inl (fun _ => 0))), (q11, .inl (k12, 640, .inr (.inl (fun _ => 0)))), (q13, .inl (k14, 640, .inr (.inl (fun _ => 0)))), (q15, .inl (k16, 640, .inr (.inl (fun _ => 0)))), (q17, .inl (k18, 6400, .inr (.inl (fun _ => 0)))), (q19, .inl (k20, 1280, .inr (.inl (fun _ => 0)))), (q21, .inl (k22, 2, .inl (fun _ => 0))), (q23, .inl (k24, 400, .inl (fun _ => 0))), (q25, .inl (k26, 800, .inr (.inl (fun _ => 0)))), (q27, .inl (k28, 80, .inr (.inl (fun _ => 0)))), (q29, .inl (k30, 4, .inl (fun _ => 0))), (q31, .inl (k32, 4000, .inl (fun _ => 0)))] H := hP
  have hD : va_D A [(h0, .inr (7, [.ref q1, .ref q3, .ref q5, .ref q7, .ref q9, .ref q11, .ref q13, .ref q15, .ref q17, .ref q19, .ref q21, .int 0, .ref q23, .int 0, .int 0, .int 0, .int 0, .ref q25, .int 0, .ref q27, .ref q29, .ref q31, .null, .int 0, .int 0, .null])), (q1, .inl (k2, 99, .inl (fun _ => 0))), (q3, .inl (k4, 99, .inl (fun _ => 0))), (q5, .inl (k6, 99, .inl (fun _ => 0))), (q7, .inl (k8, 990, .inl (fun _ => 0))), (q9, .inl (k10, 198, .inl (fun _ => 0))), (q11, .inl (k12, 640, .inr (.inl (fun _ => 0)))), (q13, .inl (k14, 640, .inr (.inl (fun _ => 0)))), (q15, .inl (k16, 640, .inr (.inl (fun _ => 0)))), (q17, .inl (k18, 6400, .inr (.inl (fun _ => 0)))), (q19, .inl (k20, 1280, .inr (.inl (fun _ => 0)))), (q21, .inl (k22, 2, .inl (fun _ => 0))), (q23, .inl (k24, 400, .inl (fun _ => 0))), (q25, .inl (k26, 800, .inr (.inl (fun _ => 0)))), (q27, .inl (k28, 80, .inr (.inl (fun _ => 0)))), (q29, .inl (k30, 4, .inl (fun _ => 0))), (q31, .inl (k32, 4000, .inl (fun _ => 0)))] := hD
  refine lv_aload_n hx hb dX7_init_140 rfl (lv_at hl 0 rfl) ?_
  refine lv_sipush (v := 4000) hx hb dX7_init_141 (by decide +kernel) ?_
  refine va_newa (atype := .int) (ty := .int) (a0 := (4000, .inl (fun _ => 0))) hx hb (hts _ pq347) rfl hK hP hD hS hA (fun _ => rfl) (by decide +kernel) (by decide +kernel) (Nat.le_of_ble_eq_true rfl) (Nat.le_of_ble_eq_true rfl) (Nat.le_of_ble_eq_true rfl) dX7_init_144 (fun q33 k34 H hK hP hD hS => ?_)
  have hP : va_P (dC, dI) vwCl [(h0, .inr (7, [.ref q1, .ref q3, .ref q5, .ref q7, .ref q9, .ref q11, .ref q13, .ref q15, .ref q17, .ref q19, .ref q21, .int 0, .ref q23, .int 0, .int 0, .int 0, .int 0, .ref q25, .int 0, .ref q27, .ref q29, .ref q31, .null, .int 0, .int 0, .null])), (q1, .inl (k2, 99, .inl (fun _ => 0))), (q3, .inl (k4, 99, .inl (fun _ => 0))), (q5, .inl (k6, 99, .inl (fun _ => 0))), (q7, .inl (k8, 990, .inl (fun _ => 0))), (q9, .inl (k10, 198, .inl (fun _ => 0))), (q11, .inl (k12, 640, .inr (.inl (fun _ => 0)))), (q13, .inl (k14, 640, .inr (.inl (fun _ => 0)))), (q15, .inl (k16, 640, .inr (.inl (fun _ => 0)))), (q17, .inl (k18, 6400, .inr (.inl (fun _ => 0)))), (q19, .inl (k20, 1280, .inr (.inl (fun _ => 0)))), (q21, .inl (k22, 2, .inl (fun _ => 0))), (q23, .inl (k24, 400, .inl (fun _ => 0))), (q25, .inl (k26, 800, .inr (.inl (fun _ => 0)))), (q27, .inl (k28, 80, .inr (.inl (fun _ => 0)))), (q29, .inl (k30, 4, .inl (fun _ => 0))), (q31, .inl (k32, 4000, .inl (fun _ => 0))), (q33, .inl (k34, 4000, .inl (fun _ => 0)))] H := hP
  have hD : va_D A [(h0, .inr (7, [.ref q1, .ref q3, .ref q5, .ref q7, .ref q9, .ref q11, .ref q13, .ref q15, .ref q17, .ref q19, .ref q21, .int 0, .ref q23, .int 0, .int 0, .int 0, .int 0, .ref q25, .int 0, .ref q27, .ref q29, .ref q31, .null, .int 0, .int 0, .null])), (q1, .inl (k2, 99, .inl (fun _ => 0))), (q3, .inl (k4, 99, .inl (fun _ => 0))), (q5, .inl (k6, 99, .inl (fun _ => 0))), (q7, .inl (k8, 990, .inl (fun _ => 0))), (q9, .inl (k10, 198, .inl (fun _ => 0))), (q11, .inl (k12, 640, .inr (.inl (fun _ => 0)))), (q13, .inl (k14, 640, .inr (.inl (fun _ => 0)))), (q15, .inl (k16, 640, .inr (.inl (fun _ => 0)))), (q17, .inl (k18, 6400, .inr (.inl (fun _ => 0)))), (q19, .inl (k20, 1280, .inr (.inl (fun _ => 0)))), (q21, .inl (k22, 2, .inl (fun _ => 0))), (q23, .inl (k24, 400, .inl (fun _ => 0))), (q25, .inl (k26, 800, .inr (.inl (fun _ => 0)))), (q27, .inl (k28, 80, .inr (.inl (fun _ => 0)))), (q29, .inl (k30, 4, .inl (fun _ => 0))), (q31, .inl (k32, 4000, .inl (fun _ => 0))), (q33, .inl (k34, 4000, .inl (fun _ => 0)))] := hD
  have hK : va_K (dC, dI) vwCl [(k2, .int), (k4, .int), (k6, .int), (k8, .int), (k10, .int), (k12, .long), (k14, .long), (k16, .long), (k18, .long), (k20, .long), (k22, .boolean), (k24, .byte), (k26, .long), (k28, .long), (k30, .int), (k32, .int), (k34, .int)] s := hK
  refine W.widen (k := 17) (n := 20371) (Nat.le_of_ble_eq_true rfl) (Nat.le_of_ble_eq_true rfl) ?_
  refine va_putF (D := (dC, dI)) (ci := 7) (v := .ref q33) (ty := tyX7 22) (C := RX7) (T := TX7) (N := 26) hx hb hts inX7 tyX7 tyX7_ok nmX7 hown hK hP hD hS 0 rfl rfl 22 (by decide) (hts _ pq1137) (fun _ h9 => h9) rfl hin rfl (by decide +kernel) rfl rfl (Nat.le_of_ble_eq_true rfl) dX7_init_146 (fun H locs hP hD hS => ?_)
  have hP : va_P (dC, dI) vwCl [(h0, .inr (7, [.ref q1, .ref q3, .ref q5, .ref q7, .ref q9, .ref q11, .ref q13, .ref q15, .ref q17, .ref q19, .ref q21, .int 0, .ref q23, .int 0, .int 0, .int 0, .int 0, .ref q25, .int 0, .ref q27, .ref q29, .ref q31, .ref q33, .int 0, .int 0, .null])), (q1, .inl (k2, 99, .inl (fun _ => 0))), (q3, .inl (k4, 99, .inl (fun _ => 0))), (q5, .inl (k6, 99, .inl (fun _ => 0))), (q7, .inl (k8, 990, .inl (fun _ => 0))), (q9, .inl (k10, 198, .inl (fun _ => 0))), (q11, .inl (k12, 640, .inr (.inl (fun _ => 0)))), (q13, .inl (k14, 640, .inr (.inl (fun _ => 0)))), (q15, .inl (k16, 640, .inr (.inl (fun _ => 0)))), (q17, .inl (k18, 6400, .inr (.inl (fun _ => 0)))), (q19, .inl (k20, 1280, .inr (.inl (fun _ => 0)))), (q21, .inl (k22, 2, .inl (fun _ => 0))), (q23, .inl (k24, 400, .inl (fun _ => 0))), (q25, .inl (k26, 800, .inr (.inl (fun _ => 0)))), (q27, .inl (k28, 80, .inr (.inl (fun _ => 0)))), (q29, .inl (k30, 4, .inl (fun _ => 0))), (q31, .inl (k32, 4000, .inl (fun _ => 0))), (q33, .inl (k34, 4000, .inl (fun _ => 0)))] H := hP
  have hD : va_D A [(h0, .inr (7, [.ref q1, .ref q3, .ref q5, .ref q7, .ref q9, .ref q11, .ref q13, .ref q15, .ref q17, .ref q19, .ref q21, .int 0, .ref q23, .int 0, .int 0, .int 0, .int 0, .ref q25, .int 0, .ref q27, .ref q29, .ref q31, .ref q33, .int 0, .int 0, .null])), (q1, .inl (k2, 99, .inl (fun _ => 0))), (q3, .inl (k4, 99, .inl (fun _ => 0))), (q5, .inl (k6, 99, .inl (fun _ => 0))), (q7, .inl (k8, 990, .inl (fun _ => 0))), (q9, .inl (k10, 198, .inl (fun _ => 0))), (q11, .inl (k12, 640, .inr (.inl (fun _ => 0)))), (q13, .inl (k14, 640, .inr (.inl (fun _ => 0)))), (q15, .inl (k16, 640, .inr (.inl (fun _ => 0)))), (q17, .inl (k18, 6400, .inr (.inl (fun _ => 0)))), (q19, .inl (k20, 1280, .inr (.inl (fun _ => 0)))), (q21, .inl (k22, 2, .inl (fun _ => 0))), (q23, .inl (k24, 400, .inl (fun _ => 0))), (q25, .inl (k26, 800, .inr (.inl (fun _ => 0)))), (q27, .inl (k28, 80, .inr (.inl (fun _ => 0)))), (q29, .inl (k30, 4, .inl (fun _ => 0))), (q31, .inl (k32, 4000, .inl (fun _ => 0))), (q33, .inl (k34, 4000, .inl (fun _ => 0)))] := hD
  refine lv_aload_n hx hb dX7_init_149 rfl (lv_at hl 0 rfl) ?_
  refine lv_iconst (v := 4) hx hb dX7_init_150 (by decide +kernel) ?_
  refine va_newa (atype := .int) (ty := .int) (a0 := (4, .inl (fun _ => 0))) hx hb (hts _ pq347) rfl hK hP hD hS hA (fun _ => rfl) (by decide +kernel) (by decide +kernel) (Nat.le_of_ble_eq_true rfl) (Nat.le_of_ble_eq_true rfl) (Nat.le_of_ble_eq_true rfl) dX7_init_151 (fun q35 k36 H hK hP hD hS => ?_)
  have hP : va_P (dC, dI) vwCl [(h0, .inr (7, [.ref q1, .ref q3, .ref q5, .ref q7, .ref q9, .ref q11, .ref q13, .ref q15, .ref q17, .ref q19, .ref q21, .int 0, .ref q23, .int 0, .int 0, .int 0, .int 0, .ref q25, .int 0, .ref q27, .ref q29, .ref q31, .ref q33, .int 0, .int 0, .null])), (q1, .inl (k2, 99, .inl (fun _ => 0))), (q3, .inl (k4, 99, .inl (fun _ => 0))), (q5, .inl (k6, 99, .inl (fun _ => 0))), (q7, .inl (k8, 990, .inl (fun _ => 0))), (q9, .inl (k10, 198, .inl (fun _ => 0))), (q11, .inl (k12, 640, .inr (.inl (fun _ => 0)))), (q13, .inl (k14, 640, .inr (.inl (fun _ => 0)))), (q15, .inl (k16, 640, .inr (.inl (fun _ => 0)))), (q17, .inl (k18, 6400, .inr (.inl (fun _ => 0)))), (q19, .inl (k20, 1280, .inr (.inl (fun _ => 0)))), (q21, .inl (k22, 2, .inl (fun _ => 0))), (q23, .inl (k24, 400, .inl (fun _ => 0))), (q25, .inl (k26, 800, .inr (.inl (fun _ => 0)))), (q27, .inl (k28, 80, .inr (.inl (fun _ => 0)))), (q29, .inl (k30, 4, .inl (fun _ => 0))), (q31, .inl (k32, 4000, .inl (fun _ => 0))), (q33, .inl (k34, 4000, .inl (fun _ => 0))), (q35, .inl (k36, 4, .inl (fun _ => 0)))] H := hP
  have hD : va_D A [(h0, .inr (7, [.ref q1, .ref q3, .ref q5, .ref q7, .ref q9, .ref q11, .ref q13, .ref q15, .ref q17, .ref q19, .ref q21, .int 0, .ref q23, .int 0, .int 0, .int 0, .int 0, .ref q25, .int 0, .ref q27, .ref q29, .ref q31, .ref q33, .int 0, .int 0, .null])), (q1, .inl (k2, 99, .inl (fun _ => 0))), (q3, .inl (k4, 99, .inl (fun _ => 0))), (q5, .inl (k6, 99, .inl (fun _ => 0))), (q7, .inl (k8, 990, .inl (fun _ => 0))), (q9, .inl (k10, 198, .inl (fun _ => 0))), (q11, .inl (k12, 640, .inr (.inl (fun _ => 0)))), (q13, .inl (k14, 640, .inr (.inl (fun _ => 0)))), (q15, .inl (k16, 640, .inr (.inl (fun _ => 0)))), (q17, .inl (k18, 6400, .inr (.inl (fun _ => 0)))), (q19, .inl (k20, 1280, .inr (.inl (fun _ => 0)))), (q21, .inl (k22, 2, .inl (fun _ => 0))), (q23, .inl (k24, 400, .inl (fun _ => 0))), (q25, .inl (k26, 800, .inr (.inl (fun _ => 0)))), (q27, .inl (k28, 80, .inr (.inl (fun _ => 0)))), (q29, .inl (k30, 4, .inl (fun _ => 0))), (q31, .inl (k32, 4000, .inl (fun _ => 0))), (q33, .inl (k34, 4000, .inl (fun _ => 0))), (q35, .inl (k36, 4, .inl (fun _ => 0)))] := hD
  have hK : va_K (dC, dI) vwCl [(k2, .int), (k4, .int), (k6, .int), (k8, .int), (k10, .int), (k12, .long), (k14, .long), (k16, .long), (k18, .long), (k20, .long), (k22, .boolean), (k24, .byte), (k26, .long), (k28, .long), (k30, .int), (k32, .int), (k34, .int), (k36, .int)] s := hK
  refine W.widen (k := 18) (n := 20375) (Nat.le_of_ble_eq_true rfl) (Nat.le_of_ble_eq_true rfl) ?_
  refine va_putF (D := (dC, dI)) (ci := 7) (v := .ref q35) (ty := tyX7 25) (C := RX7) (T := TX7) (N := 26) hx hb hts inX7 tyX7 tyX7_ok nmX7 hown hK hP hD hS 0 rfl rfl 25 (by decide) (hts _ pq1140) (fun _ h9 => h9) rfl hin rfl (by decide +kernel) rfl rfl (Nat.le_of_ble_eq_true rfl) dX7_init_153 (fun H locs hP hD hS => ?_)
  have hP : va_P (dC, dI) vwCl [(h0, .inr (7, [.ref q1, .ref q3, .ref q5, .ref q7, .ref q9, .ref q11, .ref q13, .ref q15, .ref q17, .ref q19, .ref q21, .int 0, .ref q23, .int 0, .int 0, .int 0, .int 0, .ref q25, .int 0, .ref q27, .ref q29, .ref q31, .ref q33, .int 0, .int 0, .ref q35])), (q1, .inl (k2, 99, .inl (fun _ => 0))), (q3, .inl (k4, 99, .inl (fun _ => 0))), (q5, .inl (k6, 99, .inl (fun _ => 0))), (q7, .inl (k8, 990, .inl (fun _ => 0))), (q9, .inl (k10, 198, .inl (fun _ => 0))), (q11, .inl (k12, 640, .inr (.inl (fun _ => 0)))), (q13, .inl (k14, 640, .inr (.inl (fun _ => 0)))), (q15, .inl (k16, 640, .inr (.inl (fun _ => 0)))), (q17, .inl (k18, 6400, .inr (.inl (fun _ => 0)))), (q19, .inl (k20, 1280, .inr (.inl (fun _ => 0)))), (q21, .inl (k22, 2, .inl (fun _ => 0))), (q23, .inl (k24, 400, .inl (fun _ => 0))), (q25, .inl (k26, 800, .inr (.inl (fun _ => 0)))), (q27, .inl (k28, 80, .inr (.inl (fun _ => 0)))), (q29, .inl (k30, 4, .inl (fun _ => 0))), (q31, .inl (k32, 4000, .inl (fun _ => 0))), (q33, .inl (k34, 4000, .inl (fun _ => 0))), (q35, .inl (k36, 4, .inl (fun _ => 0)))] H := hP
  have hD : va_D A [(h0, .inr (7, [.ref q1, .ref q3, .ref q5, .ref q7, .ref q9, .ref q11, .ref q13, .ref q15, .ref q17, .ref q19, .ref q21, .int 0, .ref q23, .int 0, .int 0, .int 0, .int 0, .ref q25, .int 0, .ref q27, .ref q29, .ref q31, .ref q33, .int 0, .int 0, .ref q35])), (q1, .inl (k2, 99, .inl (fun _ => 0))), (q3, .inl (k4, 99, .inl (fun _ => 0))), (q5, .inl (k6, 99, .inl (fun _ => 0))), (q7, .inl (k8, 990, .inl (fun _ => 0))), (q9, .inl (k10, 198, .inl (fun _ => 0))), (q11, .inl (k12, 640, .inr (.inl (fun _ => 0)))), (q13, .inl (k14, 640, .inr (.inl (fun _ => 0)))), (q15, .inl (k16, 640, .inr (.inl (fun _ => 0)))), (q17, .inl (k18, 6400, .inr (.inl (fun _ => 0)))), (q19, .inl (k20, 1280, .inr (.inl (fun _ => 0)))), (q21, .inl (k22, 2, .inl (fun _ => 0))), (q23, .inl (k24, 400, .inl (fun _ => 0))), (q25, .inl (k26, 800, .inr (.inl (fun _ => 0)))), (q27, .inl (k28, 80, .inr (.inl (fun _ => 0)))), (q29, .inl (k30, 4, .inl (fun _ => 0))), (q31, .inl (k32, 4000, .inl (fun _ => 0))), (q33, .inl (k34, 4000, .inl (fun _ => 0))), (q35, .inl (k36, 4, .inl (fun _ => 0)))] := hD
  have hP9 := hP.sub (ws' := [(h0, .inr (7, [.ref q1, .ref q3, .ref q5, .ref q7, .ref q9, .ref q11, .ref q13, .ref q15, .ref q17, .ref q19, .ref q21, .int 0, .ref q23, .int 0, .int 0, .int 0, .int 0, .ref q25, .int 0, .ref q27, .ref q29, .ref q31, .ref q33, .int 0, .int 0, .ref q35])), (q1, .inl (k2, 99, .inl (fun _ => 0))), (q3, .inl (k4, 99, .inl (fun _ => 0))), (q5, .inl (k6, 99, .inl (fun _ => 0))), (q7, .inl (k8, 990, .inl (fun _ => 0))), (q9, .inl (k10, 198, .inl (fun _ => 0))), (q11, .inl (k12, 640, .inr (.inl (fun _ => 0)))), (q13, .inl (k14, 640, .inr (.inl (fun _ => 0)))), (q15, .inl (k16, 640, .inr (.inl (fun _ => 0)))), (q17, .inl (k18, 6400, .inr (.inl (fun _ => 0)))), (q19, .inl (k20, 1280, .inr (.inl (fun _ => 0)))), (q21, .inl (k22, 2, .inl (fun _ => 0))), (q23, .inl (k24, 400, .inl (fun _ => 0)))]) [0, 1, 2, 3, 4, 5, 6, 7, 8, 9, 10, 11, 12] rfl
  have hD9 := hD.sub (ws' := [(h0, .inr (7, [.ref q1, .ref q3, .ref q5, .ref q7, .ref q9, .ref q11, .ref q13, .ref q15, .ref q17, .ref q19, .ref q21, .int 0, .ref q23, .int 0, .int 0, .int 0, .int 0, .ref q25, .int 0, .ref q27, .ref q29, .ref q31, .ref q33, .int 0, .int 0, .ref q35])), (q1, .inl (k2, 99, .inl (fun _ => 0))), (q3, .inl (k4, 99, .inl (fun _ => 0))), (q5, .inl (k6, 99, .inl (fun _ => 0))), (q7, .inl (k8, 990, .inl (fun _ => 0))), (q9, .inl (k10, 198, .inl (fun _ => 0))), (q11, .inl (k12, 640, .inr (.inl (fun _ => 0)))), (q13, .inl (k14, 640, .inr (.inl (fun _ => 0)))), (q15, .inl (k16, 640, .inr (.inl (fun _ => 0)))), (q17, .inl (k18, 6400, .inr (.inl (fun _ => 0)))), (q19, .inl (k20, 1280, .inr (.inl (fun _ => 0)))), (q21, .inl (k22, 2, .inl (fun _ => 0))), (q23, .inl (k24, 400, .inl (fun _ => 0)))]) [0, 1, 2, 3, 4, 5, 6, 7, 8, 9, 10, 11, 12] (by decide) rfl
  have hK9 := hK.sub (tys' := [(k2, .int), (k4, .int), (k6, .int), (k8, .int), (k10, .int), (k12, .long), (k14, .long), (k16, .long), (k18, .long), (k20, .long), (k22, .boolean), (k24, .byte)]) [0, 1, 2, 3, 4, 5, 6, 7, 8, 9, 10, 11] rfl
  exact W.vret hx hb hr (fun t ht hW => ⟨⟨(), rfl, trivial, ⟨q1, q3, q5, q7, q9, q11, q13, q15, q17, q19, q21, q23, q25, q27, q29, q31, q33, q35, k2, k4, k6, k8, k10, k12, k14, k16, k18, k20, k22, k24, by rw [ht]; exact hP9, va_K.moved hW.alike hK9, hD9⟩⟩, hS.F ht⟩) hS.2.2 dX7_init_156
end
section
abbrev cX6_body : ByteArray := prog_1_method_42_code
abbrev cX6_common : ByteArray := prog_1_method_43_code
abbrev cX6_crop : ByteArray := prog_1_method_14_code
abbrev cX6_dot : ByteArray := prog_1_method_30_code
abbrev cX6_flip : ByteArray := prog_1_method_7_code
abbrev cX6_grow : ByteArray := prog_1_method_11_code
abbrev cX6_join : ByteArray := prog_1_method_13_code
abbrev cX6_layers : ByteArray := prog_1_method_8_code
abbrev cX6_mask : ByteArray := prog_1_method_29_code
abbrev cX6_meet : ByteArray := prog_1_method_44_code
abbrev cX6_place : ByteArray := prog_1_method_6_code
abbrev cX6_push : ByteArray := prog_1_method_20_code
abbrev cX6_quarter : ByteArray := prog_1_method_17_code
abbrev cX6_row : ByteArray := prog_1_method_31_code
abbrev cX6_slide : ByteArray := prog_1_method_19_code
abbrev cX6_speed : ByteArray := prog_1_method_9_code
abbrev cX6_thin : ByteArray := prog_1_method_12_code
abbrev cX6_turn : ByteArray := prog_1_method_10_code
def yX6_body : MethodName := ⟨RX6, "body", "(II)I"⟩
def yX6_common : MethodName := ⟨RX6, "common", "(II)I"⟩
def yX6_crop : MethodName := ⟨RX6, "crop", "(I)I"⟩
def yX6_dot : MethodName := ⟨RX6, "dot", "(III)I"⟩
def yX6_flip : MethodName := ⟨RX6, "flip", "(II)I"⟩
def yX6_grow : MethodName := ⟨RX6, "grow", "(I)I"⟩
def yX6_join : MethodName := ⟨RX6, "join", "(IIIII)I"⟩
def yX6_layers : MethodName := ⟨RX6, "layers", "(III)I"⟩
def yX6_mask : MethodName := ⟨RX6, "mask", "(II)I"⟩
def yX6_meet : MethodName := ⟨RX6, "meet", "(III)I"⟩
def yX6_place : MethodName := ⟨RX6, "place", "(III)I"⟩
def yX6_push : MethodName := ⟨RX6, "push", "(III)I"⟩
def yX6_quarter : MethodName := ⟨RX6, "quarter", "(I)I"⟩
def yX6_row : MethodName := ⟨RX6, "row", "(III)J"⟩
def yX6_slide : MethodName := ⟨RX6, "slide", "(III)I"⟩
def yX6_speed : MethodName := ⟨RX6, "speed", "(III)I"⟩
def yX6_thin : MethodName := ⟨RX6, "thin", "(I)I"⟩
def yX6_turn : MethodName := ⟨RX6, "turn", "(III)I"⟩
theorem dX6_body_0 : decode cX6_body 0 = .ok (.aload_n 0, 1) := by decide +kernel
theorem dX6_body_1 : decode cX6_body 1 = .ok (.iload_n 1, 1) := by decide +kernel
theorem dX6_body_2 : decode cX6_body 2 = .ok (.invokevirtual 86, 3) := by decide +kernel
theorem dX6_body_5 : decode cX6_body 5 = .ok (.ifCond .eq 12, 3) := by decide +kernel
theorem dX6_body_17 : decode cX6_body 17 = .ok (.sipush (-2000), 3) := by decide +kernel
theorem dX6_body_20 : decode cX6_body 20 = .ok (.ireturn, 1) := by decide +kernel
theorem dX6_common_0 : decode cX6_common 0 = .ok (.aload_n 0, 1) := by decide +kernel
theorem dX6_common_1 : decode cX6_common 1 = .ok (.iload_n 1, 1) := by decide +kernel
theorem dX6_common_2 : decode cX6_common 2 = .ok (.iload_n 2, 1) := by decide +kernel
theorem dX6_common_3 : decode cX6_common 3 = .ok (.invokevirtual 303, 3) := by decide +kernel
theorem dX6_common_6 : decode cX6_common 6 = .ok (.ifCond .ne 5, 3) := by decide +kernel
theorem dX6_common_9 : decode cX6_common 9 = .ok (.iconst (-1), 1) := by decide +kernel
theorem dX6_common_10 : decode cX6_common 10 = .ok (.ireturn, 1) := by decide +kernel
theorem dX6_crop_0 : decode cX6_crop 0 = .ok (.aload_n 0, 1) := by decide +kernel
theorem dX6_crop_1 : decode cX6_crop 1 = .ok (.iload_n 1, 1) := by decide +kernel
theorem dX6_crop_2 : decode cX6_crop 2 = .ok (.invokevirtual 130, 3) := by decide +kernel
theorem dX6_crop_5 : decode cX6_crop 5 = .ok (.ifCond .ne 5, 3) := by decide +kernel
theorem dX6_crop_8 : decode cX6_crop 8 = .ok (.iconst (-1), 1) := by decide +kernel
theorem dX6_crop_9 : decode cX6_crop 9 = .ok (.ireturn, 1) := by decide +kernel
theorem dX6_dot_0 : decode cX6_dot 0 = .ok (.aload_n 0, 1) := by decide +kernel
theorem dX6_dot_1 : decode cX6_dot 1 = .ok (.iload_n 1, 1) := by decide +kernel
theorem dX6_dot_2 : decode cX6_dot 2 = .ok (.invokevirtual 130, 3) := by decide +kernel
theorem dX6_dot_5 : decode cX6_dot 5 = .ok (.ifCond .ne 5, 3) := by decide +kernel
theorem dX6_dot_8 : decode cX6_dot 8 = .ok (.iconst (-1), 1) := by decide +kernel
theorem dX6_dot_9 : decode cX6_dot 9 = .ok (.ireturn, 1) := by decide +kernel
theorem dX6_flip_0 : decode cX6_flip 0 = .ok (.aload_n 0, 1) := by decide +kernel
theorem dX6_flip_1 : decode cX6_flip 1 = .ok (.iload_n 1, 1) := by decide +kernel
theorem dX6_flip_2 : decode cX6_flip 2 = .ok (.invokevirtual 86, 3) := by decide +kernel
theorem dX6_flip_5 : decode cX6_flip 5 = .ok (.ifCond .eq 11, 3) := by decide +kernel
theorem dX6_flip_16 : decode cX6_flip 16 = .ok (.iconst (-1), 1) := by decide +kernel
theorem dX6_flip_17 : decode cX6_flip 17 = .ok (.ireturn, 1) := by decide +kernel
theorem dX6_grow_0 : decode cX6_grow 0 = .ok (.aload_n 0, 1) := by decide +kernel
theorem dX6_grow_1 : decode cX6_grow 1 = .ok (.iload_n 1, 1) := by decide +kernel
theorem dX6_grow_2 : decode cX6_grow 2 = .ok (.invokevirtual 130, 3) := by decide +kernel
theorem dX6_grow_5 : decode cX6_grow 5 = .ok (.ifCond .ne 5, 3) := by decide +kernel
theorem dX6_grow_8 : decode cX6_grow 8 = .ok (.iconst (-1), 1) := by decide +kernel
theorem dX6_grow_9 : decode cX6_grow 9 = .ok (.ireturn, 1) := by decide +kernel
theorem dX6_join_0 : decode cX6_join 0 = .ok (.aload_n 0, 1) := by decide +kernel
theorem dX6_join_1 : decode cX6_join 1 = .ok (.iload_n 1, 1) := by decide +kernel
theorem dX6_join_2 : decode cX6_join 2 = .ok (.invokevirtual 130, 3) := by decide +kernel
theorem dX6_join_5 : decode cX6_join 5 = .ok (.ifCond .eq 39, 3) := by decide +kernel
theorem dX6_join_44 : decode cX6_join 44 = .ok (.iconst (-1), 1) := by decide +kernel
theorem dX6_join_45 : decode cX6_join 45 = .ok (.ireturn, 1) := by decide +kernel
theorem dX6_layers_0 : decode cX6_layers 0 = .ok (.aload_n 0, 1) := by decide +kernel
theorem dX6_layers_1 : decode cX6_layers 1 = .ok (.iload_n 1, 1) := by decide +kernel
theorem dX6_layers_2 : decode cX6_layers 2 = .ok (.invokevirtual 86, 3) := by decide +kernel
theorem dX6_layers_5 : decode cX6_layers 5 = .ok (.ifCond .eq 21, 3) := by decide +kernel
theorem dX6_layers_26 : decode cX6_layers 26 = .ok (.iconst (-1), 1) := by decide +kernel
theorem dX6_layers_27 : decode cX6_layers 27 = .ok (.ireturn, 1) := by decide +kernel
theorem dX6_mask_0 : decode cX6_mask 0 = .ok (.aload_n 0, 1) := by decide +kernel
theorem dX6_mask_1 : decode cX6_mask 1 = .ok (.iload_n 1, 1) := by decide +kernel
theorem dX6_mask_2 : decode cX6_mask 2 = .ok (.invokevirtual 130, 3) := by decide +kernel
theorem dX6_mask_5 : decode cX6_mask 5 = .ok (.ifCond .ne 5, 3) := by decide +kernel
theorem dX6_mask_8 : decode cX6_mask 8 = .ok (.iconst (-1), 1) := by decide +kernel
theorem dX6_mask_9 : decode cX6_mask 9 = .ok (.ireturn, 1) := by decide +kernel
theorem dX6_meet_0 : decode cX6_meet 0 = .ok (.aload_n 0, 1) := by decide +kernel
theorem dX6_meet_1 : decode cX6_meet 1 = .ok (.iload_n 1, 1) := by decide +kernel
theorem dX6_meet_2 : decode cX6_meet 2 = .ok (.iload_n 2, 1) := by decide +kernel
theorem dX6_meet_3 : decode cX6_meet 3 = .ok (.invokevirtual 303, 3) := by decide +kernel
theorem dX6_meet_6 : decode cX6_meet 6 = .ok (.ifCond .eq 11, 3) := by decide +kernel
theorem dX6_meet_17 : decode cX6_meet 17 = .ok (.sipush (-2000), 3) := by decide +kernel
theorem dX6_meet_20 : decode cX6_meet 20 = .ok (.ireturn, 1) := by decide +kernel
theorem dX6_place_0 : decode cX6_place 0 = .ok (.aload_n 0, 1) := by decide +kernel
theorem dX6_place_1 : decode cX6_place 1 = .ok (.iload_n 1, 1) := by decide +kernel
theorem dX6_place_2 : decode cX6_place 2 = .ok (.invokevirtual 86, 3) := by decide +kernel
theorem dX6_place_5 : decode cX6_place 5 = .ok (.ifCond .eq 23, 3) := by decide +kernel
theorem dX6_place_28 : decode cX6_place 28 = .ok (.iconst (-1), 1) := by decide +kernel
theorem dX6_place_29 : decode cX6_place 29 = .ok (.ireturn, 1) := by decide +kernel
theorem dX6_push_0 : decode cX6_push 0 = .ok (.aload_n 0, 1) := by decide +kernel
theorem dX6_push_1 : decode cX6_push 1 = .ok (.iload_n 1, 1) := by decide +kernel
theorem dX6_push_2 : decode cX6_push 2 = .ok (.invokevirtual 86, 3) := by decide +kernel
theorem dX6_push_5 : decode cX6_push 5 = .ok (.ifCond .eq 23, 3) := by decide +kernel
theorem dX6_push_28 : decode cX6_push 28 = .ok (.iconst (-1), 1) := by decide +kernel
theorem dX6_push_29 : decode cX6_push 29 = .ok (.ireturn, 1) := by decide +kernel
theorem dX6_quarter_0 : decode cX6_quarter 0 = .ok (.aload_n 0, 1) := by decide +kernel
theorem dX6_quarter_1 : decode cX6_quarter 1 = .ok (.iload_n 1, 1) := by decide +kernel
theorem dX6_quarter_2 : decode cX6_quarter 2 = .ok (.invokevirtual 130, 3) := by decide +kernel
theorem dX6_quarter_5 : decode cX6_quarter 5 = .ok (.ifCond .ne 5, 3) := by decide +kernel
theorem dX6_quarter_8 : decode cX6_quarter 8 = .ok (.iconst (-1), 1) := by decide +kernel
theorem dX6_quarter_9 : decode cX6_quarter 9 = .ok (.ireturn, 1) := by decide +kernel
theorem dX6_row_0 : decode cX6_row 0 = .ok (.aload_n 0, 1) := by decide +kernel
theorem dX6_row_1 : decode cX6_row 1 = .ok (.iload_n 1, 1) := by decide +kernel
theorem dX6_row_2 : decode cX6_row 2 = .ok (.invokevirtual 130, 3) := by decide +kernel
theorem dX6_row_5 : decode cX6_row 5 = .ok (.ifCond .eq 31, 3) := by decide +kernel
theorem dX6_row_36 : decode cX6_row 36 = .ok (.lconst 0, 1) := by decide +kernel
theorem dX6_row_37 : decode cX6_row 37 = .ok (.lreturn, 1) := by decide +kernel
theorem dX6_slide_0 : decode cX6_slide 0 = .ok (.aload_n 0, 1) := by decide +kernel
theorem dX6_slide_1 : decode cX6_slide 1 = .ok (.iload_n 1, 1) := by decide +kernel
theorem dX6_slide_2 : decode cX6_slide 2 = .ok (.invokevirtual 86, 3) := by decide +kernel
theorem dX6_slide_5 : decode cX6_slide 5 = .ok (.ifCond .eq 23, 3) := by decide +kernel
theorem dX6_slide_28 : decode cX6_slide 28 = .ok (.iconst (-1), 1) := by decide +kernel
theorem dX6_slide_29 : decode cX6_slide 29 = .ok (.ireturn, 1) := by decide +kernel
theorem dX6_speed_0 : decode cX6_speed 0 = .ok (.aload_n 0, 1) := by decide +kernel
theorem dX6_speed_1 : decode cX6_speed 1 = .ok (.iload_n 1, 1) := by decide +kernel
theorem dX6_speed_2 : decode cX6_speed 2 = .ok (.invokevirtual 86, 3) := by decide +kernel
theorem dX6_speed_5 : decode cX6_speed 5 = .ok (.ifCond .eq 21, 3) := by decide +kernel
theorem dX6_speed_26 : decode cX6_speed 26 = .ok (.iconst (-1), 1) := by decide +kernel
theorem dX6_speed_27 : decode cX6_speed 27 = .ok (.ireturn, 1) := by decide +kernel
theorem dX6_thin_0 : decode cX6_thin 0 = .ok (.aload_n 0, 1) := by decide +kernel
theorem dX6_thin_1 : decode cX6_thin 1 = .ok (.iload_n 1, 1) := by decide +kernel
theorem dX6_thin_2 : decode cX6_thin 2 = .ok (.invokevirtual 130, 3) := by decide +kernel
theorem dX6_thin_5 : decode cX6_thin 5 = .ok (.ifCond .ne 5, 3) := by decide +kernel
theorem dX6_thin_8 : decode cX6_thin 8 = .ok (.iconst (-1), 1) := by decide +kernel
theorem dX6_thin_9 : decode cX6_thin 9 = .ok (.ireturn, 1) := by decide +kernel
theorem dX6_turn_0 : decode cX6_turn 0 = .ok (.aload_n 0, 1) := by decide +kernel
theorem dX6_turn_1 : decode cX6_turn 1 = .ok (.iload_n 1, 1) := by decide +kernel
theorem dX6_turn_2 : decode cX6_turn 2 = .ok (.invokevirtual 130, 3) := by decide +kernel
theorem dX6_turn_5 : decode cX6_turn 5 = .ok (.ifCond .eq 20, 3) := by decide +kernel
theorem dX6_turn_25 : decode cX6_turn 25 = .ok (.iconst (-1), 1) := by decide +kernel
theorem dX6_turn_26 : decode cX6_turn 26 = .ok (.ireturn, 1) := by decide +kernel
set_option maxRecDepth 100000 in
theorem pq4 : Cond.selects RX6 yX6_isMask yX6_isMask ∈ pw := pw_mem (i := 4) (by decide +kernel) rfl
set_option maxRecDepth 100000 in
theorem pq7 : Cond.selects RX6 yX6_areTwoBodies yX6_areTwoBodies ∈ pw := pw_mem (i := 7) (by decide +kernel) rfl
set_option maxRecDepth 100000 in
theorem pq666 : Cond.methodLink RX6 130 yX6_isMask ∈ pw := pw_mem (i := 666) (by decide +kernel) rfl
set_option maxRecDepth 100000 in
theorem pq668 : Cond.instanceMethod yX6_isMask ∈ pw := pw_mem (i := 668) (by decide +kernel) rfl
set_option maxRecDepth 100000 in
theorem pq669 : Cond.code yX6_isMask cX6_isMask 2 (some .boolean) ∈ pw := pw_mem (i := 669) (by rfl) rfl
set_option maxRecDepth 100000 in
theorem pq970 : Cond.methodLink RX6 303 yX6_areTwoBodies ∈ pw := pw_mem (i := 970) (by decide +kernel) rfl
set_option maxRecDepth 100000 in
theorem pq972 : Cond.instanceMethod yX6_areTwoBodies ∈ pw := pw_mem (i := 972) (by decide +kernel) rfl
set_option maxRecDepth 100000 in
theorem pq973 : Cond.code yX6_areTwoBodies cX6_areTwoBodies 3 (some .boolean) ∈ pw := pw_mem (i := 973) (by rfl) rfl
set_option maxHeartbeats 4000000 in
set_option maxRecDepth 100000 in
theorem c_X6_place (l : Launch) (dC : Nat → ClassId) (dI : Nat → Nat → Nat) (h0 tp nw dr rd sc sk fl ps sh nm nb : Nat) (sz : Nat) (p0 : Int32) (p1 : Int32) (p2 : Int32) : Met l yX6_place (.code yX6_place cX6_place 5 (some .int) :: pw) ({ frames := 1, cells := 0, slots := 0, locals := 21 }) (pc (dC, dI) [.ref h0, .int p0, .int p1, .int p2] sz [(h0, .inr (6, [.ref tp, .int 0, .ref nw, .ref dr, .ref rd, .ref sc, .ref sk, .ref fl, .ref ps, .int 0, .int 0, .ref sh])), (nw, .inr (1, [.ref nm, .ref nb, .int 0, .int 0, .int 0]))] []) (va_Qi (fun (r : Int32) (_ : Unit) => r = (-1)) (fun _ _ => True) (fun _ => False)) 0 0 (fun _ => False) := by
  refine Met.ofW (cc := cX6_place) (maxL := 5) (ret := (some .int)) (by decide +kernel) rfl ?_
  intro p e s m args below meth c s₁ B hml hv
  obtain ⟨rfl, hsz, hP, hK, hD0, hN⟩ := hv
  have hx := B.exec
  have hb := B.bytes
  have hr := B.returns
  have hts := fun w (h : w ∈ pw) => atoms_spec (ws := Cond.code yX6_place cX6_place 5 (some .int) :: pw) B.pre w (List.mem_cons_of_mem _ h)
  have hown : s.vm.findClass RX6 = some m.cls := findClass_of_methodNamed B.named
  have hlocks := B.notSynchronized
  subst hsz
  have hD := hD0
  obtain ⟨H, hHe⟩ : ∃ H : Heap, H = s.heap := ⟨_, rfl⟩
  have hS : va_S (fun _ => False) s.heap H [] := by rw [hHe]; exact va_S.rf
  rw [← hHe] at hP
  have hl := lv_entry ([.ref h0, .int p0, .int p1, .int p2]) (n := 5) (Nat.le_of_ble_eq_true rfl)
  rw [lg_entry_eq]
  generalize (lg_sl ([.ref h0, .int p0, .int p1, .int p2]) ++ List.replicate (5 - (lg_sl ([.ref h0, .int p0, .int p1, .int p2])).length) Slot.unset).toArray = ls at hl ⊢
  have hl : lv_has ls 5 [(0, .ref h0), (1, .int p0), (2, .int p1), (3, .int p2)] := hl
  rw [← hHe]
  refine lv_aload_n hx hb dX6_place_0 rfl (lv_at hl 0 rfl) ?_
  refine lv_iload_n hx hb dX6_place_1 rfl (lv_at hl 1 rfl) ?_
  have hPc := hP.sub (ws' := [(h0, .inr (6, [.ref tp, .int 0, .ref nw, .ref dr, .ref rd, .ref sc, .ref sk, .ref fl, .ref ps, .int 0, .int 0, .ref sh])), (nw, .inr (1, [.ref nm, .ref nb, .int 0, .int 0, .int 0]))]) [0, 1] rfl
  have hDc := hD.sub (ws' := [(h0, .inr (6, [.ref tp, .int 0, .ref nw, .ref dr, .ref rd, .ref sc, .ref sk, .ref fl, .ref ps, .int 0, .int 0, .ref sh])), (nw, .inr (1, [.ref nm, .ref nb, .int 0, .int 0, .int 0]))]) [0, 1] (by decide) rfl
  have hKc := hK.sub (tys' := []) [] rfl
  refine ro_i (va_runV (As := [.int p0]) (rest := []) ⟨hx, hb, hml, hown, hts⟩ (c_X6_isBody l dC dI h0 tp nw dr rd sc sk fl ps sh nm nb H.size p0 ) (cwV 1 hts (gV pq636 pq638 pq2 pq74 pq639) rfl rfl rfl (by decide +kernel) ⟨(Nat.le_of_ble_eq_true rfl), (Nat.le_of_ble_eq_true rfl)⟩) (pc_V hPc hDc hKc hN (va_recv hK hP (ci := 6) (q0 := 0) rfl rfl)) rfl rfl hl.1 rfl (lv_room (Nat.le_of_ble_eq_true rfl)) dX6_place_2 ⟨(Nat.le_of_ble_eq_true rfl), (Nat.le_of_ble_eq_true rfl)⟩) hS hP (fun r1 H locs hr1 hP hS => ?_)
  subst hr1
  refine lv_if_eq (tgt := 28) hx hb dX6_place_5 (by decide) (fun c2 => ?_) (fun c2 => absurd (by decide +kernel) c2)
  refine lv_iconst (v := (-1)) hx hb dX6_place_28 (by decide +kernel) ?_
  exact W.iret (v := (-1)) hx hb hr (fun t ht hW => ⟨⟨(-1), (), rfl, rfl, trivial⟩, hS.F ht⟩) hS.2.2 dX6_place_29

set_option maxHeartbeats 4000000 in
set_option maxRecDepth 100000 in
theorem c_X6_flip (l : Launch) (dC : Nat → ClassId) (dI : Nat → Nat → Nat) (h0 tp nw dr rd sc sk fl ps sh nm nb : Nat) (sz : Nat) (p0 : Int32) (p1 : Int32) : Met l yX6_flip (.code yX6_flip cX6_flip 5 (some .int) :: pw) ({ frames := 1, cells := 0, slots := 0, locals := 21 }) (pc (dC, dI) [.ref h0, .int p0, .int p1] sz [(h0, .inr (6, [.ref tp, .int 0, .ref nw, .ref dr, .ref rd, .ref sc, .ref sk, .ref fl, .ref ps, .int 0, .int 0, .ref sh])), (nw, .inr (1, [.ref nm, .ref nb, .int 0, .int 0, .int 0]))] []) (va_Qi (fun (r : Int32) (_ : Unit) => r = (-1)) (fun _ _ => True) (fun _ => False)) 0 0 (fun _ => False) := by
  refine Met.ofW (cc := cX6_flip) (maxL := 5) (ret := (some .int)) (by decide +kernel) rfl ?_
  intro p e s m args below meth c s₁ B hml hv
  obtain ⟨rfl, hsz, hP, hK, hD0, hN⟩ := hv
  have hx := B.exec
  have hb := B.bytes
  have hr := B.returns
  have hts := fun w (h : w ∈ pw) => atoms_spec (ws := Cond.code yX6_flip cX6_flip 5 (some .int) :: pw) B.pre w (List.mem_cons_of_mem _ h)
  have hown : s.vm.findClass RX6 = some m.cls := findClass_of_methodNamed B.named
  have hlocks := B.notSynchronized
  subst hsz
  have hD := hD0
  obtain ⟨H, hHe⟩ : ∃ H : Heap, H = s.heap := ⟨_, rfl⟩
  have hS : va_S (fun _ => False) s.heap H [] := by rw [hHe]; exact va_S.rf
  rw [← hHe] at hP
  have hl := lv_entry ([.ref h0, .int p0, .int p1]) (n := 5) (Nat.le_of_ble_eq_true rfl)
  rw [lg_entry_eq]
  generalize (lg_sl ([.ref h0, .int p0, .int p1]) ++ List.replicate (5 - (lg_sl ([.ref h0, .int p0, .int p1])).length) Slot.unset).toArray = ls at hl ⊢
  have hl : lv_has ls 5 [(0, .ref h0), (1, .int p0), (2, .int p1)] := hl
  rw [← hHe]
  refine lv_aload_n hx hb dX6_flip_0 rfl (lv_at hl 0 rfl) ?_
  refine lv_iload_n hx hb dX6_flip_1 rfl (lv_at hl 1 rfl) ?_
  have hPc := hP.sub (ws' := [(h0, .inr (6, [.ref tp, .int 0, .ref nw, .ref dr, .ref rd, .ref sc, .ref sk, .ref fl, .ref ps, .int 0, .int 0, .ref sh])), (nw, .inr (1, [.ref nm, .ref nb, .int 0, .int 0, .int 0]))]) [0, 1] rfl
  have hDc := hD.sub (ws' := [(h0, .inr (6, [.ref tp, .int 0, .ref nw, .ref dr, .ref rd, .ref sc, .ref sk, .ref fl, .ref ps, .int 0, .int 0, .ref sh])), (nw, .inr (1, [.ref nm, .ref nb, .int 0, .int 0, .int 0]))]) [0, 1] (by decide) rfl
  have hKc := hK.sub (tys' := []) [] rfl
  refine ro_i (va_runV (As := [.int p0]) (rest := []) ⟨hx, hb, hml, hown, hts⟩ (c_X6_isBody l dC dI h0 tp nw dr rd sc sk fl ps sh nm nb H.size p0 ) (cwV 1 hts (gV pq636 pq638 pq2 pq74 pq639) rfl rfl rfl (by decide +kernel) ⟨(Nat.le_of_ble_eq_true rfl), (Nat.le_of_ble_eq_true rfl)⟩) (pc_V hPc hDc hKc hN (va_recv hK hP (ci := 6) (q0 := 0) rfl rfl)) rfl rfl hl.1 rfl (lv_room (Nat.le_of_ble_eq_true rfl)) dX6_flip_2 ⟨(Nat.le_of_ble_eq_true rfl), (Nat.le_of_ble_eq_true rfl)⟩) hS hP (fun r1 H locs hr1 hP hS => ?_)
  subst hr1
  refine lv_if_eq (tgt := 16) hx hb dX6_flip_5 (by decide) (fun c2 => ?_) (fun c2 => absurd (by decide +kernel) c2)
  refine lv_iconst (v := (-1)) hx hb dX6_flip_16 (by decide +kernel) ?_
  exact W.iret (v := (-1)) hx hb hr (fun t ht hW => ⟨⟨(-1), (), rfl, rfl, trivial⟩, hS.F ht⟩) hS.2.2 dX6_flip_17

set_option maxHeartbeats 4000000 in
set_option maxRecDepth 100000 in
theorem c_X6_layers (l : Launch) (dC : Nat → ClassId) (dI : Nat → Nat → Nat) (h0 tp nw dr rd sc sk fl ps sh nm nb : Nat) (sz : Nat) (p0 : Int32) (p1 : Int32) (p2 : Int32) : Met l yX6_layers (.code yX6_layers cX6_layers 5 (some .int) :: pw) ({ frames := 1, cells := 0, slots := 0, locals := 21 }) (pc (dC, dI) [.ref h0, .int p0, .int p1, .int p2] sz [(h0, .inr (6, [.ref tp, .int 0, .ref nw, .ref dr, .ref rd, .ref sc, .ref sk, .ref fl, .ref ps, .int 0, .int 0, .ref sh])), (nw, .inr (1, [.ref nm, .ref nb, .int 0, .int 0, .int 0]))] []) (va_Qi (fun (r : Int32) (_ : Unit) => r = (-1)) (fun _ _ => True) (fun _ => False)) 0 0 (fun _ => False) := by
  refine Met.ofW (cc := cX6_layers) (maxL := 5) (ret := (some .int)) (by decide +kernel) rfl ?_
  intro p e s m args below meth c s₁ B hml hv
  obtain ⟨rfl, hsz, hP, hK, hD0, hN⟩ := hv
  have hx := B.exec
  have hb := B.bytes
  have hr := B.returns
  have hts := fun w (h : w ∈ pw) => atoms_spec (ws := Cond.code yX6_layers cX6_layers 5 (some .int) :: pw) B.pre w (List.mem_cons_of_mem _ h)
  have hown : s.vm.findClass RX6 = some m.cls := findClass_of_methodNamed B.named
  have hlocks := B.notSynchronized
  subst hsz
  have hD := hD0
  obtain ⟨H, hHe⟩ : ∃ H : Heap, H = s.heap := ⟨_, rfl⟩
  have hS : va_S (fun _ => False) s.heap H [] := by rw [hHe]; exact va_S.rf
  rw [← hHe] at hP
  have hl := lv_entry ([.ref h0, .int p0, .int p1, .int p2]) (n := 5) (Nat.le_of_ble_eq_true rfl)
  rw [lg_entry_eq]
  generalize (lg_sl ([.ref h0, .int p0, .int p1, .int p2]) ++ List.replicate (5 - (lg_sl ([.ref h0, .int p0, .int p1, .int p2])).length) Slot.unset).toArray = ls at hl ⊢
  have hl : lv_has ls 5 [(0, .ref h0), (1, .int p0), (2, .int p1), (3, .int p2)] := hl
  rw [← hHe]
  refine lv_aload_n hx hb dX6_layers_0 rfl (lv_at hl 0 rfl) ?_
  refine lv_iload_n hx hb dX6_layers_1 rfl (lv_at hl 1 rfl) ?_
  have hPc := hP.sub (ws' := [(h0, .inr (6, [.ref tp, .int 0, .ref nw, .ref dr, .ref rd, .ref sc, .ref sk, .ref fl, .ref ps, .int 0, .int 0, .ref sh])), (nw, .inr (1, [.ref nm, .ref nb, .int 0, .int 0, .int 0]))]) [0, 1] rfl
  have hDc := hD.sub (ws' := [(h0, .inr (6, [.ref tp, .int 0, .ref nw, .ref dr, .ref rd, .ref sc, .ref sk, .ref fl, .ref ps, .int 0, .int 0, .ref sh])), (nw, .inr (1, [.ref nm, .ref nb, .int 0, .int 0, .int 0]))]) [0, 1] (by decide) rfl
  have hKc := hK.sub (tys' := []) [] rfl
  refine ro_i (va_runV (As := [.int p0]) (rest := []) ⟨hx, hb, hml, hown, hts⟩ (c_X6_isBody l dC dI h0 tp nw dr rd sc sk fl ps sh nm nb H.size p0 ) (cwV 1 hts (gV pq636 pq638 pq2 pq74 pq639) rfl rfl rfl (by decide +kernel) ⟨(Nat.le_of_ble_eq_true rfl), (Nat.le_of_ble_eq_true rfl)⟩) (pc_V hPc hDc hKc hN (va_recv hK hP (ci := 6) (q0 := 0) rfl rfl)) rfl rfl hl.1 rfl (lv_room (Nat.le_of_ble_eq_true rfl)) dX6_layers_2 ⟨(Nat.le_of_ble_eq_true rfl), (Nat.le_of_ble_eq_true rfl)⟩) hS hP (fun r1 H locs hr1 hP hS => ?_)
  subst hr1
  refine lv_if_eq (tgt := 26) hx hb dX6_layers_5 (by decide) (fun c2 => ?_) (fun c2 => absurd (by decide +kernel) c2)
  refine lv_iconst (v := (-1)) hx hb dX6_layers_26 (by decide +kernel) ?_
  exact W.iret (v := (-1)) hx hb hr (fun t ht hW => ⟨⟨(-1), (), rfl, rfl, trivial⟩, hS.F ht⟩) hS.2.2 dX6_layers_27

set_option maxHeartbeats 4000000 in
set_option maxRecDepth 100000 in
theorem c_X6_speed (l : Launch) (dC : Nat → ClassId) (dI : Nat → Nat → Nat) (h0 tp nw dr rd sc sk fl ps sh nm nb : Nat) (sz : Nat) (p0 : Int32) (p1 : Int32) (p2 : Int32) : Met l yX6_speed (.code yX6_speed cX6_speed 5 (some .int) :: pw) ({ frames := 1, cells := 0, slots := 0, locals := 21 }) (pc (dC, dI) [.ref h0, .int p0, .int p1, .int p2] sz [(h0, .inr (6, [.ref tp, .int 0, .ref nw, .ref dr, .ref rd, .ref sc, .ref sk, .ref fl, .ref ps, .int 0, .int 0, .ref sh])), (nw, .inr (1, [.ref nm, .ref nb, .int 0, .int 0, .int 0]))] []) (va_Qi (fun (r : Int32) (_ : Unit) => r = (-1)) (fun _ _ => True) (fun _ => False)) 0 0 (fun _ => False) := by
  refine Met.ofW (cc := cX6_speed) (maxL := 5) (ret := (some .int)) (by decide +kernel) rfl ?_
  intro p e s m args below meth c s₁ B hml hv
  obtain ⟨rfl, hsz, hP, hK, hD0, hN⟩ := hv
  have hx := B.exec
  have hb := B.bytes
  have hr := B.returns
  have hts := fun w (h : w ∈ pw) => atoms_spec (ws := Cond.code yX6_speed cX6_speed 5 (some .int) :: pw) B.pre w (List.mem_cons_of_mem _ h)
  have hown : s.vm.findClass RX6 = some m.cls := findClass_of_methodNamed B.named
  have hlocks := B.notSynchronized
  subst hsz
  have hD := hD0
  obtain ⟨H, hHe⟩ : ∃ H : Heap, H = s.heap := ⟨_, rfl⟩
  have hS : va_S (fun _ => False) s.heap H [] := by rw [hHe]; exact va_S.rf
  rw [← hHe] at hP
  have hl := lv_entry ([.ref h0, .int p0, .int p1, .int p2]) (n := 5) (Nat.le_of_ble_eq_true rfl)
  rw [lg_entry_eq]
  generalize (lg_sl ([.ref h0, .int p0, .int p1, .int p2]) ++ List.replicate (5 - (lg_sl ([.ref h0, .int p0, .int p1, .int p2])).length) Slot.unset).toArray = ls at hl ⊢
  have hl : lv_has ls 5 [(0, .ref h0), (1, .int p0), (2, .int p1), (3, .int p2)] := hl
  rw [← hHe]
  refine lv_aload_n hx hb dX6_speed_0 rfl (lv_at hl 0 rfl) ?_
  refine lv_iload_n hx hb dX6_speed_1 rfl (lv_at hl 1 rfl) ?_
  have hPc := hP.sub (ws' := [(h0, .inr (6, [.ref tp, .int 0, .ref nw, .ref dr, .ref rd, .ref sc, .ref sk, .ref fl, .ref ps, .int 0, .int 0, .ref sh])), (nw, .inr (1, [.ref nm, .ref nb, .int 0, .int 0, .int 0]))]) [0, 1] rfl
  have hDc := hD.sub (ws' := [(h0, .inr (6, [.ref tp, .int 0, .ref nw, .ref dr, .ref rd, .ref sc, .ref sk, .ref fl, .ref ps, .int 0, .int 0, .ref sh])), (nw, .inr (1, [.ref nm, .ref nb, .int 0, .int 0, .int 0]))]) [0, 1] (by decide) rfl
  have hKc := hK.sub (tys' := []) [] rfl
  refine ro_i (va_runV (As := [.int p0]) (rest := []) ⟨hx, hb, hml, hown, hts⟩ (c_X6_isBody l dC dI h0 tp nw dr rd sc sk fl ps sh nm nb H.size p0 ) (cwV 1 hts (gV pq636 pq638 pq2 pq74 pq639) rfl rfl rfl (by decide +kernel) ⟨(Nat.le_of_ble_eq_true rfl), (Nat.le_of_ble_eq_true rfl)⟩) (pc_V hPc hDc hKc hN (va_recv hK hP (ci := 6) (q0 := 0) rfl rfl)) rfl rfl hl.1 rfl (lv_room (Nat.le_of_ble_eq_true rfl)) dX6_speed_2 ⟨(Nat.le_of_ble_eq_true rfl), (Nat.le_of_ble_eq_true rfl)⟩) hS hP (fun r1 H locs hr1 hP hS => ?_)
  subst hr1
  refine lv_if_eq (tgt := 26) hx hb dX6_speed_5 (by decide) (fun c2 => ?_) (fun c2 => absurd (by decide +kernel) c2)
  refine lv_iconst (v := (-1)) hx hb dX6_speed_26 (by decide +kernel) ?_
  exact W.iret (v := (-1)) hx hb hr (fun t ht hW => ⟨⟨(-1), (), rfl, rfl, trivial⟩, hS.F ht⟩) hS.2.2 dX6_speed_27

set_option maxHeartbeats 4000000 in
set_option maxRecDepth 100000 in
theorem c_X6_turn (l : Launch) (dC : Nat → ClassId) (dI : Nat → Nat → Nat) (h0 tp nw dr rd sc sk fl ps sh nm nb : Nat) (sz : Nat) (p0 : Int32) (p1 : Int32) (p2 : Int32) : Met l yX6_turn (.code yX6_turn cX6_turn 5 (some .int) :: pw) ({ frames := 1, cells := 0, slots := 0, locals := 21 }) (pc (dC, dI) [.ref h0, .int p0, .int p1, .int p2] sz [(h0, .inr (6, [.ref tp, .int 0, .ref nw, .ref dr, .ref rd, .ref sc, .ref sk, .ref fl, .ref ps, .int 0, .int 0, .ref sh])), (nw, .inr (1, [.ref nm, .ref nb, .int 0, .int 0, .int 0]))] []) (va_Qi (fun (r : Int32) (_ : Unit) => r = (-1)) (fun _ _ => True) (fun _ => False)) 0 0 (fun _ => False) := by
  refine Met.ofW (cc := cX6_turn) (maxL := 5) (ret := (some .int)) (by decide +kernel) rfl ?_
  intro p e s m args below meth c s₁ B hml hv
  obtain ⟨rfl, hsz, hP, hK, hD0, hN⟩ := hv
  have hx := B.exec
  have hb := B.bytes
  have hr := B.returns
  have hts := fun w (h : w ∈ pw) => atoms_spec (ws := Cond.code yX6_turn cX6_turn 5 (some .int) :: pw) B.pre w (List.mem_cons_of_mem _ h)
  have hown : s.vm.findClass RX6 = some m.cls := findClass_of_methodNamed B.named
  have hlocks := B.notSynchronized
  subst hsz
  have hD := hD0
  obtain ⟨H, hHe⟩ : ∃ H : Heap, H = s.heap := ⟨_, rfl⟩
  have hS : va_S (fun _ => False) s.heap H [] := by rw [hHe]; exact va_S.rf
  rw [← hHe] at hP
  have hl := lv_entry ([.ref h0, .int p0, .int p1, .int p2]) (n := 5) (Nat.le_of_ble_eq_true rfl)
  rw [lg_entry_eq]
  generalize (lg_sl ([.ref h0, .int p0, .int p1, .int p2]) ++ List.replicate (5 - (lg_sl ([.ref h0, .int p0, .int p1, .int p2])).length) Slot.unset).toArray = ls at hl ⊢
  have hl : lv_has ls 5 [(0, .ref h0), (1, .int p0), (2, .int p1), (3, .int p2)] := hl
  rw [← hHe]
  refine lv_aload_n hx hb dX6_turn_0 rfl (lv_at hl 0 rfl) ?_
  refine lv_iload_n hx hb dX6_turn_1 rfl (lv_at hl 1 rfl) ?_
  have hPc := hP.sub (ws' := [(h0, .inr (6, [.ref tp, .int 0, .ref nw, .ref dr, .ref rd, .ref sc, .ref sk, .ref fl, .ref ps, .int 0, .int 0, .ref sh])), (nw, .inr (1, [.ref nm, .ref nb, .int 0, .int 0, .int 0]))]) [0, 1] rfl
  have hDc := hD.sub (ws' := [(h0, .inr (6, [.ref tp, .int 0, .ref nw, .ref dr, .ref rd, .ref sc, .ref sk, .ref fl, .ref ps, .int 0, .int 0, .ref sh])), (nw, .inr (1, [.ref nm, .ref nb, .int 0, .int 0, .int 0]))]) [0, 1] (by decide) rfl
  have hKc := hK.sub (tys' := []) [] rfl
  refine ro_i (va_runV (As := [.int p0]) (rest := []) ⟨hx, hb, hml, hown, hts⟩ (c_X6_isMask l dC dI h0 tp nw dr rd sc sk fl ps sh nm nb H.size p0 ) (cwV 1 hts (gV pq666 pq668 pq4 pq74 pq669) rfl rfl rfl (by decide +kernel) ⟨(Nat.le_of_ble_eq_true rfl), (Nat.le_of_ble_eq_true rfl)⟩) (pc_V hPc hDc hKc hN (va_recv hK hP (ci := 6) (q0 := 0) rfl rfl)) rfl rfl hl.1 rfl (lv_room (Nat.le_of_ble_eq_true rfl)) dX6_turn_2 ⟨(Nat.le_of_ble_eq_true rfl), (Nat.le_of_ble_eq_true rfl)⟩) hS hP (fun r1 H locs hr1 hP hS => ?_)
  subst hr1
  refine lv_if_eq (tgt := 25) hx hb dX6_turn_5 (by decide) (fun c2 => ?_) (fun c2 => absurd (by decide +kernel) c2)
  refine lv_iconst (v := (-1)) hx hb dX6_turn_25 (by decide +kernel) ?_
  exact W.iret (v := (-1)) hx hb hr (fun t ht hW => ⟨⟨(-1), (), rfl, rfl, trivial⟩, hS.F ht⟩) hS.2.2 dX6_turn_26

set_option maxHeartbeats 4000000 in
set_option maxRecDepth 100000 in
theorem c_X6_grow (l : Launch) (dC : Nat → ClassId) (dI : Nat → Nat → Nat) (h0 tp nw dr rd sc sk fl ps sh nm nb : Nat) (sz : Nat) (p0 : Int32) : Met l yX6_grow (.code yX6_grow cX6_grow 3 (some .int) :: pw) ({ frames := 1, cells := 0, slots := 0, locals := 21 }) (pc (dC, dI) [.ref h0, .int p0] sz [(h0, .inr (6, [.ref tp, .int 0, .ref nw, .ref dr, .ref rd, .ref sc, .ref sk, .ref fl, .ref ps, .int 0, .int 0, .ref sh])), (nw, .inr (1, [.ref nm, .ref nb, .int 0, .int 0, .int 0]))] []) (va_Qi (fun (r : Int32) (_ : Unit) => r = (-1)) (fun _ _ => True) (fun _ => False)) 0 0 (fun _ => False) := by
  refine Met.ofW (cc := cX6_grow) (maxL := 3) (ret := (some .int)) (by decide +kernel) rfl ?_
  intro p e s m args below meth c s₁ B hml hv
  obtain ⟨rfl, hsz, hP, hK, hD0, hN⟩ := hv
  have hx := B.exec
  have hb := B.bytes
  have hr := B.returns
  have hts := fun w (h : w ∈ pw) => atoms_spec (ws := Cond.code yX6_grow cX6_grow 3 (some .int) :: pw) B.pre w (List.mem_cons_of_mem _ h)
  have hown : s.vm.findClass RX6 = some m.cls := findClass_of_methodNamed B.named
  have hlocks := B.notSynchronized
  subst hsz
  have hD := hD0
  obtain ⟨H, hHe⟩ : ∃ H : Heap, H = s.heap := ⟨_, rfl⟩
  have hS : va_S (fun _ => False) s.heap H [] := by rw [hHe]; exact va_S.rf
  rw [← hHe] at hP
  have hl := lv_entry ([.ref h0, .int p0]) (n := 3) (Nat.le_of_ble_eq_true rfl)
  rw [lg_entry_eq]
  generalize (lg_sl ([.ref h0, .int p0]) ++ List.replicate (3 - (lg_sl ([.ref h0, .int p0])).length) Slot.unset).toArray = ls at hl ⊢
  have hl : lv_has ls 3 [(0, .ref h0), (1, .int p0)] := hl
  rw [← hHe]
  refine lv_aload_n hx hb dX6_grow_0 rfl (lv_at hl 0 rfl) ?_
  refine lv_iload_n hx hb dX6_grow_1 rfl (lv_at hl 1 rfl) ?_
  have hPc := hP.sub (ws' := [(h0, .inr (6, [.ref tp, .int 0, .ref nw, .ref dr, .ref rd, .ref sc, .ref sk, .ref fl, .ref ps, .int 0, .int 0, .ref sh])), (nw, .inr (1, [.ref nm, .ref nb, .int 0, .int 0, .int 0]))]) [0, 1] rfl
  have hDc := hD.sub (ws' := [(h0, .inr (6, [.ref tp, .int 0, .ref nw, .ref dr, .ref rd, .ref sc, .ref sk, .ref fl, .ref ps, .int 0, .int 0, .ref sh])), (nw, .inr (1, [.ref nm, .ref nb, .int 0, .int 0, .int 0]))]) [0, 1] (by decide) rfl
  have hKc := hK.sub (tys' := []) [] rfl
  refine ro_i (va_runV (As := [.int p0]) (rest := []) ⟨hx, hb, hml, hown, hts⟩ (c_X6_isMask l dC dI h0 tp nw dr rd sc sk fl ps sh nm nb H.size p0 ) (cwV 1 hts (gV pq666 pq668 pq4 pq74 pq669) rfl rfl rfl (by decide +kernel) ⟨(Nat.le_of_ble_eq_true rfl), (Nat.le_of_ble_eq_true rfl)⟩) (pc_V hPc hDc hKc hN (va_recv hK hP (ci := 6) (q0 := 0) rfl rfl)) rfl rfl hl.1 rfl (lv_room (Nat.le_of_ble_eq_true rfl)) dX6_grow_2 ⟨(Nat.le_of_ble_eq_true rfl), (Nat.le_of_ble_eq_true rfl)⟩) hS hP (fun r1 H locs hr1 hP hS => ?_)
  subst hr1
  refine lv_if_ne (tgt := 10) hx hb dX6_grow_5 (by decide) (fun c2 => absurd (by decide +kernel) c2) (fun c2 => ?_)
  refine lv_iconst (v := (-1)) hx hb dX6_grow_8 (by decide +kernel) ?_
  exact W.iret (v := (-1)) hx hb hr (fun t ht hW => ⟨⟨(-1), (), rfl, rfl, trivial⟩, hS.F ht⟩) hS.2.2 dX6_grow_9

set_option maxHeartbeats 4000000 in
set_option maxRecDepth 100000 in
theorem c_X6_thin (l : Launch) (dC : Nat → ClassId) (dI : Nat → Nat → Nat) (h0 tp nw dr rd sc sk fl ps sh nm nb : Nat) (sz : Nat) (p0 : Int32) : Met l yX6_thin (.code yX6_thin cX6_thin 3 (some .int) :: pw) ({ frames := 1, cells := 0, slots := 0, locals := 21 }) (pc (dC, dI) [.ref h0, .int p0] sz [(h0, .inr (6, [.ref tp, .int 0, .ref nw, .ref dr, .ref rd, .ref sc, .ref sk, .ref fl, .ref ps, .int 0, .int 0, .ref sh])), (nw, .inr (1, [.ref nm, .ref nb, .int 0, .int 0, .int 0]))] []) (va_Qi (fun (r : Int32) (_ : Unit) => r = (-1)) (fun _ _ => True) (fun _ => False)) 0 0 (fun _ => False) := by
  refine Met.ofW (cc := cX6_thin) (maxL := 3) (ret := (some .int)) (by decide +kernel) rfl ?_
  intro p e s m args below meth c s₁ B hml hv
  obtain ⟨rfl, hsz, hP, hK, hD0, hN⟩ := hv
  have hx := B.exec
  have hb := B.bytes
  have hr := B.returns
  have hts := fun w (h : w ∈ pw) => atoms_spec (ws := Cond.code yX6_thin cX6_thin 3 (some .int) :: pw) B.pre w (List.mem_cons_of_mem _ h)
  have hown : s.vm.findClass RX6 = some m.cls := findClass_of_methodNamed B.named
  have hlocks := B.notSynchronized
  subst hsz
  have hD := hD0
  obtain ⟨H, hHe⟩ : ∃ H : Heap, H = s.heap := ⟨_, rfl⟩
  have hS : va_S (fun _ => False) s.heap H [] := by rw [hHe]; exact va_S.rf
  rw [← hHe] at hP
  have hl := lv_entry ([.ref h0, .int p0]) (n := 3) (Nat.le_of_ble_eq_true rfl)
  rw [lg_entry_eq]
  generalize (lg_sl ([.ref h0, .int p0]) ++ List.replicate (3 - (lg_sl ([.ref h0, .int p0])).length) Slot.unset).toArray = ls at hl ⊢
  have hl : lv_has ls 3 [(0, .ref h0), (1, .int p0)] := hl
  rw [← hHe]
  refine lv_aload_n hx hb dX6_thin_0 rfl (lv_at hl 0 rfl) ?_
  refine lv_iload_n hx hb dX6_thin_1 rfl (lv_at hl 1 rfl) ?_
  have hPc := hP.sub (ws' := [(h0, .inr (6, [.ref tp, .int 0, .ref nw, .ref dr, .ref rd, .ref sc, .ref sk, .ref fl, .ref ps, .int 0, .int 0, .ref sh])), (nw, .inr (1, [.ref nm, .ref nb, .int 0, .int 0, .int 0]))]) [0, 1] rfl
  have hDc := hD.sub (ws' := [(h0, .inr (6, [.ref tp, .int 0, .ref nw, .ref dr, .ref rd, .ref sc, .ref sk, .ref fl, .ref ps, .int 0, .int 0, .ref sh])), (nw, .inr (1, [.ref nm, .ref nb, .int 0, .int 0, .int 0]))]) [0, 1] (by decide) rfl
  have hKc := hK.sub (tys' := []) [] rfl
  refine ro_i (va_runV (As := [.int p0]) (rest := []) ⟨hx, hb, hml, hown, hts⟩ (c_X6_isMask l dC dI h0 tp nw dr rd sc sk fl ps sh nm nb H.size p0 ) (cwV 1 hts (gV pq666 pq668 pq4 pq74 pq669) rfl rfl rfl (by decide +kernel) ⟨(Nat.le_of_ble_eq_true rfl), (Nat.le_of_ble_eq_true rfl)⟩) (pc_V hPc hDc hKc hN (va_recv hK hP (ci := 6) (q0 := 0) rfl rfl)) rfl rfl hl.1 rfl (lv_room (Nat.le_of_ble_eq_true rfl)) dX6_thin_2 ⟨(Nat.le_of_ble_eq_true rfl), (Nat.le_of_ble_eq_true rfl)⟩) hS hP (fun r1 H locs hr1 hP hS => ?_)
  subst hr1
  refine lv_if_ne (tgt := 10) hx hb dX6_thin_5 (by decide) (fun c2 => absurd (by decide +kernel) c2) (fun c2 => ?_)
  refine lv_iconst (v := (-1)) hx hb dX6_thin_8 (by decide +kernel) ?_
  exact W.iret (v := (-1)) hx hb hr (fun t ht hW => ⟨⟨(-1), (), rfl, rfl, trivial⟩, hS.F ht⟩) hS.2.2 dX6_thin_9

set_option maxHeartbeats 4000000 in
set_option maxRecDepth 100000 in
theorem c_X6_join (l : Launch) (dC : Nat → ClassId) (dI : Nat → Nat → Nat) (h0 tp nw dr rd sc sk fl ps sh nm nb : Nat) (sz : Nat) (p0 : Int32) (p1 : Int32) (p2 : Int32) (p3 : Int32) (p4 : Int32) : Met l yX6_join (.code yX6_join cX6_join 6 (some .int) :: pw) ({ frames := 1, cells := 0, slots := 0, locals := 21 }) (pc (dC, dI) [.ref h0, .int p0, .int p1, .int p2, .int p3, .int p4] sz [(h0, .inr (6, [.ref tp, .int 0, .ref nw, .ref dr, .ref rd, .ref sc, .ref sk, .ref fl, .ref ps, .int 0, .int 0, .ref sh])), (nw, .inr (1, [.ref nm, .ref nb, .int 0, .int 0, .int 0]))] []) (va_Qi (fun (r : Int32) (_ : Unit) => r = (-1)) (fun _ _ => True) (fun _ => False)) 0 0 (fun _ => False) := by
  refine Met.ofW (cc := cX6_join) (maxL := 6) (ret := (some .int)) (by decide +kernel) rfl ?_
  intro p e s m args below meth c s₁ B hml hv
  obtain ⟨rfl, hsz, hP, hK, hD0, hN⟩ := hv
  have hx := B.exec
  have hb := B.bytes
  have hr := B.returns
  have hts := fun w (h : w ∈ pw) => atoms_spec (ws := Cond.code yX6_join cX6_join 6 (some .int) :: pw) B.pre w (List.mem_cons_of_mem _ h)
  have hown : s.vm.findClass RX6 = some m.cls := findClass_of_methodNamed B.named
  have hlocks := B.notSynchronized
  subst hsz
  have hD := hD0
  obtain ⟨H, hHe⟩ : ∃ H : Heap, H = s.heap := ⟨_, rfl⟩
  have hS : va_S (fun _ => False) s.heap H [] := by rw [hHe]; exact va_S.rf
  rw [← hHe] at hP
  have hl := lv_entry ([.ref h0, .int p0, .int p1, .int p2, .int p3, .int p4]) (n := 6) (Nat.le_of_ble_eq_true rfl)
  rw [lg_entry_eq]
  generalize (lg_sl ([.ref h0, .int p0, .int p1, .int p2, .int p3, .int p4]) ++ List.replicate (6 - (lg_sl ([.ref h0, .int p0, .int p1, .int p2, .int p3, .int p4])).length) Slot.unset).toArray = ls at hl ⊢
  have hl : lv_has ls 6 [(0, .ref h0), (1, .int p0), (2, .int p1), (3, .int p2), (4, .int p3), (5, .int p4)] := hl
  rw [← hHe]
  refine lv_aload_n hx hb dX6_join_0 rfl (lv_at hl 0 rfl) ?_
  refine lv_iload_n hx hb dX6_join_1 rfl (lv_at hl 1 rfl) ?_
  have hPc := hP.sub (ws' := [(h0, .inr (6, [.ref tp, .int 0, .ref nw, .ref dr, .ref rd, .ref sc, .ref sk, .ref fl, .ref ps, .int 0, .int 0, .ref sh])), (nw, .inr (1, [.ref nm, .ref nb, .int 0, .int 0, .int 0]))]) [0, 1] rfl
  have hDc := hD.sub (ws' := [(h0, .inr (6, [.ref tp, .int 0, .ref nw, .ref dr, .ref rd, .ref sc, .ref sk, .ref fl, .ref ps, .int 0, .int 0, .ref sh])), (nw, .inr (1, [.ref nm, .ref nb, .int 0, .int 0, .int 0]))]) [0, 1] (by decide) rfl
  have hKc := hK.sub (tys' := []) [] rfl
  refine ro_i (va_runV (As := [.int p0]) (rest := []) ⟨hx, hb, hml, hown, hts⟩ (c_X6_isMask l dC dI h0 tp nw dr rd sc sk fl ps sh nm nb H.size p0 ) (cwV 1 hts (gV pq666 pq668 pq4 pq74 pq669) rfl rfl rfl (by decide +kernel) ⟨(Nat.le_of_ble_eq_true rfl), (Nat.le_of_ble_eq_true rfl)⟩) (pc_V hPc hDc hKc hN (va_recv hK hP (ci := 6) (q0 := 0) rfl rfl)) rfl rfl hl.1 rfl (lv_room (Nat.le_of_ble_eq_true rfl)) dX6_join_2 ⟨(Nat.le_of_ble_eq_true rfl), (Nat.le_of_ble_eq_true rfl)⟩) hS hP (fun r1 H locs hr1 hP hS => ?_)
  subst hr1
  refine lv_if_eq (tgt := 44) hx hb dX6_join_5 (by decide) (fun c2 => ?_) (fun c2 => absurd (by decide +kernel) c2)
  refine lv_iconst (v := (-1)) hx hb dX6_join_44 (by decide +kernel) ?_
  exact W.iret (v := (-1)) hx hb hr (fun t ht hW => ⟨⟨(-1), (), rfl, rfl, trivial⟩, hS.F ht⟩) hS.2.2 dX6_join_45

set_option maxHeartbeats 4000000 in
set_option maxRecDepth 100000 in
theorem c_X6_slide (l : Launch) (dC : Nat → ClassId) (dI : Nat → Nat → Nat) (h0 tp nw dr rd sc sk fl ps sh nm nb : Nat) (sz : Nat) (p0 : Int32) (p1 : Int32) (p2 : Int32) : Met l yX6_slide (.code yX6_slide cX6_slide 4 (some .int) :: pw) ({ frames := 1, cells := 0, slots := 0, locals := 21 }) (pc (dC, dI) [.ref h0, .int p0, .int p1, .int p2] sz [(h0, .inr (6, [.ref tp, .int 0, .ref nw, .ref dr, .ref rd, .ref sc, .ref sk, .ref fl, .ref ps, .int 0, .int 0, .ref sh])), (nw, .inr (1, [.ref nm, .ref nb, .int 0, .int 0, .int 0]))] []) (va_Qi (fun (r : Int32) (_ : Unit) => r = (-1)) (fun _ _ => True) (fun _ => False)) 0 0 (fun _ => False) := by
  refine Met.ofW (cc := cX6_slide) (maxL := 4) (ret := (some .int)) (by decide +kernel) rfl ?_
  intro p e s m args below meth c s₁ B hml hv
  obtain ⟨rfl, hsz, hP, hK, hD0, hN⟩ := hv
  have hx := B.exec
  have hb := B.bytes
  have hr := B.returns
  have hts := fun w (h : w ∈ pw) => atoms_spec (ws := Cond.code yX6_slide cX6_slide 4 (some .int) :: pw) B.pre w (List.mem_cons_of_mem _ h)
  have hown : s.vm.findClass RX6 = some m.cls := findClass_of_methodNamed B.named
  have hlocks := B.notSynchronized
  subst hsz
  have hD := hD0
  obtain ⟨H, hHe⟩ : ∃ H : Heap, H = s.heap := ⟨_, rfl⟩
  have hS : va_S (fun _ => False) s.heap H [] := by rw [hHe]; exact va_S.rf
  rw [← hHe] at hP
  have hl := lv_entry ([.ref h0, .int p0, .int p1, .int p2]) (n := 4) (Nat.le_of_ble_eq_true rfl)
  rw [lg_entry_eq]
  generalize (lg_sl ([.ref h0, .int p0, .int p1, .int p2]) ++ List.replicate (4 - (lg_sl ([.ref h0, .int p0, .int p1, .int p2])).length) Slot.unset).toArray = ls at hl ⊢
  have hl : lv_has ls 4 [(0, .ref h0), (1, .int p0), (2, .int p1), (3, .int p2)] := hl
  rw [← hHe]
  refine lv_aload_n hx hb dX6_slide_0 rfl (lv_at hl 0 rfl) ?_
  refine lv_iload_n hx hb dX6_slide_1 rfl (lv_at hl 1 rfl) ?_
  have hPc := hP.sub (ws' := [(h0, .inr (6, [.ref tp, .int 0, .ref nw, .ref dr, .ref rd, .ref sc, .ref sk, .ref fl, .ref ps, .int 0, .int 0, .ref sh])), (nw, .inr (1, [.ref nm, .ref nb, .int 0, .int 0, .int 0]))]) [0, 1] rfl
  have hDc := hD.sub (ws' := [(h0, .inr (6, [.ref tp, .int 0, .ref nw, .ref dr, .ref rd, .ref sc, .ref sk, .ref fl, .ref ps, .int 0, .int 0, .ref sh])), (nw, .inr (1, [.ref nm, .ref nb, .int 0, .int 0, .int 0]))]) [0, 1] (by decide) rfl
  have hKc := hK.sub (tys' := []) [] rfl
  refine ro_i (va_runV (As := [.int p0]) (rest := []) ⟨hx, hb, hml, hown, hts⟩ (c_X6_isBody l dC dI h0 tp nw dr rd sc sk fl ps sh nm nb H.size p0 ) (cwV 1 hts (gV pq636 pq638 pq2 pq74 pq639) rfl rfl rfl (by decide +kernel) ⟨(Nat.le_of_ble_eq_true rfl), (Nat.le_of_ble_eq_true rfl)⟩) (pc_V hPc hDc hKc hN (va_recv hK hP (ci := 6) (q0 := 0) rfl rfl)) rfl rfl hl.1 rfl (lv_room (Nat.le_of_ble_eq_true rfl)) dX6_slide_2 ⟨(Nat.le_of_ble_eq_true rfl), (Nat.le_of_ble_eq_true rfl)⟩) hS hP (fun r1 H locs hr1 hP hS => ?_)
  subst hr1
  refine lv_if_eq (tgt := 28) hx hb dX6_slide_5 (by decide) (fun c2 => ?_) (fun c2 => absurd (by decide +kernel) c2)
  refine lv_iconst (v := (-1)) hx hb dX6_slide_28 (by decide +kernel) ?_
  exact W.iret (v := (-1)) hx hb hr (fun t ht hW => ⟨⟨(-1), (), rfl, rfl, trivial⟩, hS.F ht⟩) hS.2.2 dX6_slide_29

set_option maxHeartbeats 4000000 in
set_option maxRecDepth 100000 in
theorem c_X6_push (l : Launch) (dC : Nat → ClassId) (dI : Nat → Nat → Nat) (h0 tp nw dr rd sc sk fl ps sh nm nb : Nat) (sz : Nat) (p0 : Int32) (p1 : Int32) (p2 : Int32) : Met l yX6_push (.code yX6_push cX6_push 10 (some .int) :: pw) ({ frames := 1, cells := 0, slots := 0, locals := 21 }) (pc (dC, dI) [.ref h0, .int p0, .int p1, .int p2] sz [(h0, .inr (6, [.ref tp, .int 0, .ref nw, .ref dr, .ref rd, .ref sc, .ref sk, .ref fl, .ref ps, .int 0, .int 0, .ref sh])), (nw, .inr (1, [.ref nm, .ref nb, .int 0, .int 0, .int 0]))] []) (va_Qi (fun (r : Int32) (_ : Unit) => r = (-1)) (fun _ _ => True) (fun _ => False)) 0 0 (fun _ => False) := by
  refine Met.ofW (cc := cX6_push) (maxL := 10) (ret := (some .int)) (by decide +kernel) rfl ?_
  intro p e s m args below meth c s₁ B hml hv
  obtain ⟨rfl, hsz, hP, hK, hD0, hN⟩ := hv
  have hx := B.exec
  have hb := B.bytes
  have hr := B.returns
  have hts := fun w (h : w ∈ pw) => atoms_spec (ws := Cond.code yX6_push cX6_push 10 (some .int) :: pw) B.pre w (List.mem_cons_of_mem _ h)
  have hown : s.vm.findClass RX6 = some m.cls := findClass_of_methodNamed B.named
  have hlocks := B.notSynchronized
  subst hsz
  have hD := hD0
  obtain ⟨H, hHe⟩ : ∃ H : Heap, H = s.heap := ⟨_, rfl⟩
  have hS : va_S (fun _ => False) s.heap H [] := by rw [hHe]; exact va_S.rf
  rw [← hHe] at hP
  have hl := lv_entry ([.ref h0, .int p0, .int p1, .int p2]) (n := 10) (Nat.le_of_ble_eq_true rfl)
  rw [lg_entry_eq]
  generalize (lg_sl ([.ref h0, .int p0, .int p1, .int p2]) ++ List.replicate (10 - (lg_sl ([.ref h0, .int p0, .int p1, .int p2])).length) Slot.unset).toArray = ls at hl ⊢
  have hl : lv_has ls 10 [(0, .ref h0), (1, .int p0), (2, .int p1), (3, .int p2)] := hl
  rw [← hHe]
  refine lv_aload_n hx hb dX6_push_0 rfl (lv_at hl 0 rfl) ?_
  refine lv_iload_n hx hb dX6_push_1 rfl (lv_at hl 1 rfl) ?_
  have hPc := hP.sub (ws' := [(h0, .inr (6, [.ref tp, .int 0, .ref nw, .ref dr, .ref rd, .ref sc, .ref sk, .ref fl, .ref ps, .int 0, .int 0, .ref sh])), (nw, .inr (1, [.ref nm, .ref nb, .int 0, .int 0, .int 0]))]) [0, 1] rfl
  have hDc := hD.sub (ws' := [(h0, .inr (6, [.ref tp, .int 0, .ref nw, .ref dr, .ref rd, .ref sc, .ref sk, .ref fl, .ref ps, .int 0, .int 0, .ref sh])), (nw, .inr (1, [.ref nm, .ref nb, .int 0, .int 0, .int 0]))]) [0, 1] (by decide) rfl
  have hKc := hK.sub (tys' := []) [] rfl
  refine ro_i (va_runV (As := [.int p0]) (rest := []) ⟨hx, hb, hml, hown, hts⟩ (c_X6_isBody l dC dI h0 tp nw dr rd sc sk fl ps sh nm nb H.size p0 ) (cwV 1 hts (gV pq636 pq638 pq2 pq74 pq639) rfl rfl rfl (by decide +kernel) ⟨(Nat.le_of_ble_eq_true rfl), (Nat.le_of_ble_eq_true rfl)⟩) (pc_V hPc hDc hKc hN (va_recv hK hP (ci := 6) (q0 := 0) rfl rfl)) rfl rfl hl.1 rfl (lv_room (Nat.le_of_ble_eq_true rfl)) dX6_push_2 ⟨(Nat.le_of_ble_eq_true rfl), (Nat.le_of_ble_eq_true rfl)⟩) hS hP (fun r1 H locs hr1 hP hS => ?_)
  subst hr1
  refine lv_if_eq (tgt := 28) hx hb dX6_push_5 (by decide) (fun c2 => ?_) (fun c2 => absurd (by decide +kernel) c2)
  refine lv_iconst (v := (-1)) hx hb dX6_push_28 (by decide +kernel) ?_
  exact W.iret (v := (-1)) hx hb hr (fun t ht hW => ⟨⟨(-1), (), rfl, rfl, trivial⟩, hS.F ht⟩) hS.2.2 dX6_push_29

set_option maxHeartbeats 4000000 in
set_option maxRecDepth 100000 in
theorem c_X6_crop (l : Launch) (dC : Nat → ClassId) (dI : Nat → Nat → Nat) (h0 tp nw dr rd sc sk fl ps sh nm nb : Nat) (sz : Nat) (p0 : Int32) : Met l yX6_crop (.code yX6_crop cX6_crop 5 (some .int) :: pw) ({ frames := 1, cells := 0, slots := 0, locals := 21 }) (pc (dC, dI) [.ref h0, .int p0] sz [(h0, .inr (6, [.ref tp, .int 0, .ref nw, .ref dr, .ref rd, .ref sc, .ref sk, .ref fl, .ref ps, .int 0, .int 0, .ref sh])), (nw, .inr (1, [.ref nm, .ref nb, .int 0, .int 0, .int 0]))] []) (va_Qi (fun (r : Int32) (_ : Unit) => r = (-1)) (fun _ _ => True) (fun _ => False)) 0 0 (fun _ => False) := by
  refine Met.ofW (cc := cX6_crop) (maxL := 5) (ret := (some .int)) (by decide +kernel) rfl ?_
  intro p e s m args below meth c s₁ B hml hv
  obtain ⟨rfl, hsz, hP, hK, hD0, hN⟩ := hv
  have hx := B.exec
  have hb := B.bytes
  have hr := B.returns
  have hts := fun w (h : w ∈ pw) => atoms_spec (ws := Cond.code yX6_crop cX6_crop 5 (some .int) :: pw) B.pre w (List.mem_cons_of_mem _ h)
  have hown : s.vm.findClass RX6 = some m.cls := findClass_of_methodNamed B.named
  have hlocks := B.notSynchronized
  subst hsz
  have hD := hD0
  obtain ⟨H, hHe⟩ : ∃ H : Heap, H = s.heap := ⟨_, rfl⟩
  have hS : va_S (fun _ => False) s.heap H [] := by rw [hHe]; exact va_S.rf
  rw [← hHe] at hP
  have hl := lv_entry ([.ref h0, .int p0]) (n := 5) (Nat.le_of_ble_eq_true rfl)
  rw [lg_entry_eq]
  generalize (lg_sl ([.ref h0, .int p0]) ++ List.replicate (5 - (lg_sl ([.ref h0, .int p0])).length) Slot.unset).toArray = ls at hl ⊢
  have hl : lv_has ls 5 [(0, .ref h0), (1, .int p0)] := hl
  rw [← hHe]
  refine lv_aload_n hx hb dX6_crop_0 rfl (lv_at hl 0 rfl) ?_
  refine lv_iload_n hx hb dX6_crop_1 rfl (lv_at hl 1 rfl) ?_
  have hPc := hP.sub (ws' := [(h0, .inr (6, [.ref tp, .int 0, .ref nw, .ref dr, .ref rd, .ref sc, .ref sk, .ref fl, .ref ps, .int 0, .int 0, .ref sh])), (nw, .inr (1, [.ref nm, .ref nb, .int 0, .int 0, .int 0]))]) [0, 1] rfl
  have hDc := hD.sub (ws' := [(h0, .inr (6, [.ref tp, .int 0, .ref nw, .ref dr, .ref rd, .ref sc, .ref sk, .ref fl, .ref ps, .int 0, .int 0, .ref sh])), (nw, .inr (1, [.ref nm, .ref nb, .int 0, .int 0, .int 0]))]) [0, 1] (by decide) rfl
  have hKc := hK.sub (tys' := []) [] rfl
  refine ro_i (va_runV (As := [.int p0]) (rest := []) ⟨hx, hb, hml, hown, hts⟩ (c_X6_isMask l dC dI h0 tp nw dr rd sc sk fl ps sh nm nb H.size p0 ) (cwV 1 hts (gV pq666 pq668 pq4 pq74 pq669) rfl rfl rfl (by decide +kernel) ⟨(Nat.le_of_ble_eq_true rfl), (Nat.le_of_ble_eq_true rfl)⟩) (pc_V hPc hDc hKc hN (va_recv hK hP (ci := 6) (q0 := 0) rfl rfl)) rfl rfl hl.1 rfl (lv_room (Nat.le_of_ble_eq_true rfl)) dX6_crop_2 ⟨(Nat.le_of_ble_eq_true rfl), (Nat.le_of_ble_eq_true rfl)⟩) hS hP (fun r1 H locs hr1 hP hS => ?_)
  subst hr1
  refine lv_if_ne (tgt := 10) hx hb dX6_crop_5 (by decide) (fun c2 => absurd (by decide +kernel) c2) (fun c2 => ?_)
  refine lv_iconst (v := (-1)) hx hb dX6_crop_8 (by decide +kernel) ?_
  exact W.iret (v := (-1)) hx hb hr (fun t ht hW => ⟨⟨(-1), (), rfl, rfl, trivial⟩, hS.F ht⟩) hS.2.2 dX6_crop_9

set_option maxHeartbeats 4000000 in
set_option maxRecDepth 100000 in
theorem c_X6_quarter (l : Launch) (dC : Nat → ClassId) (dI : Nat → Nat → Nat) (h0 tp nw dr rd sc sk fl ps sh nm nb : Nat) (sz : Nat) (p0 : Int32) : Met l yX6_quarter (.code yX6_quarter cX6_quarter 2 (some .int) :: pw) ({ frames := 1, cells := 0, slots := 0, locals := 21 }) (pc (dC, dI) [.ref h0, .int p0] sz [(h0, .inr (6, [.ref tp, .int 0, .ref nw, .ref dr, .ref rd, .ref sc, .ref sk, .ref fl, .ref ps, .int 0, .int 0, .ref sh])), (nw, .inr (1, [.ref nm, .ref nb, .int 0, .int 0, .int 0]))] []) (va_Qi (fun (r : Int32) (_ : Unit) => r = (-1)) (fun _ _ => True) (fun _ => False)) 0 0 (fun _ => False) := by
  refine Met.ofW (cc := cX6_quarter) (maxL := 2) (ret := (some .int)) (by decide +kernel) rfl ?_
  intro p e s m args below meth c s₁ B hml hv
  obtain ⟨rfl, hsz, hP, hK, hD0, hN⟩ := hv
  have hx := B.exec
  have hb := B.bytes
  have hr := B.returns
  have hts := fun w (h : w ∈ pw) => atoms_spec (ws := Cond.code yX6_quarter cX6_quarter 2 (some .int) :: pw) B.pre w (List.mem_cons_of_mem _ h)
  have hown : s.vm.findClass RX6 = some m.cls := findClass_of_methodNamed B.named
  have hlocks := B.notSynchronized
  subst hsz
  have hD := hD0
  obtain ⟨H, hHe⟩ : ∃ H : Heap, H = s.heap := ⟨_, rfl⟩
  have hS : va_S (fun _ => False) s.heap H [] := by rw [hHe]; exact va_S.rf
  rw [← hHe] at hP
  have hl := lv_entry ([.ref h0, .int p0]) (n := 2) (Nat.le_of_ble_eq_true rfl)
  rw [lg_entry_eq]
  generalize (lg_sl ([.ref h0, .int p0]) ++ List.replicate (2 - (lg_sl ([.ref h0, .int p0])).length) Slot.unset).toArray = ls at hl ⊢
  have hl : lv_has ls 2 [(0, .ref h0), (1, .int p0)] := hl
  rw [← hHe]
  refine lv_aload_n hx hb dX6_quarter_0 rfl (lv_at hl 0 rfl) ?_
  refine lv_iload_n hx hb dX6_quarter_1 rfl (lv_at hl 1 rfl) ?_
  have hPc := hP.sub (ws' := [(h0, .inr (6, [.ref tp, .int 0, .ref nw, .ref dr, .ref rd, .ref sc, .ref sk, .ref fl, .ref ps, .int 0, .int 0, .ref sh])), (nw, .inr (1, [.ref nm, .ref nb, .int 0, .int 0, .int 0]))]) [0, 1] rfl
  have hDc := hD.sub (ws' := [(h0, .inr (6, [.ref tp, .int 0, .ref nw, .ref dr, .ref rd, .ref sc, .ref sk, .ref fl, .ref ps, .int 0, .int 0, .ref sh])), (nw, .inr (1, [.ref nm, .ref nb, .int 0, .int 0, .int 0]))]) [0, 1] (by decide) rfl
  have hKc := hK.sub (tys' := []) [] rfl
  refine ro_i (va_runV (As := [.int p0]) (rest := []) ⟨hx, hb, hml, hown, hts⟩ (c_X6_isMask l dC dI h0 tp nw dr rd sc sk fl ps sh nm nb H.size p0 ) (cwV 1 hts (gV pq666 pq668 pq4 pq74 pq669) rfl rfl rfl (by decide +kernel) ⟨(Nat.le_of_ble_eq_true rfl), (Nat.le_of_ble_eq_true rfl)⟩) (pc_V hPc hDc hKc hN (va_recv hK hP (ci := 6) (q0 := 0) rfl rfl)) rfl rfl hl.1 rfl (lv_room (Nat.le_of_ble_eq_true rfl)) dX6_quarter_2 ⟨(Nat.le_of_ble_eq_true rfl), (Nat.le_of_ble_eq_true rfl)⟩) hS hP (fun r1 H locs hr1 hP hS => ?_)
  subst hr1
  refine lv_if_ne (tgt := 10) hx hb dX6_quarter_5 (by decide) (fun c2 => absurd (by decide +kernel) c2) (fun c2 => ?_)
  refine lv_iconst (v := (-1)) hx hb dX6_quarter_8 (by decide +kernel) ?_
  exact W.iret (v := (-1)) hx hb hr (fun t ht hW => ⟨⟨(-1), (), rfl, rfl, trivial⟩, hS.F ht⟩) hS.2.2 dX6_quarter_9

set_option maxHeartbeats 4000000 in
set_option maxRecDepth 100000 in
theorem c_X6_mask (l : Launch) (dC : Nat → ClassId) (dI : Nat → Nat → Nat) (h0 tp nw dr rd sc sk fl ps sh nm nb : Nat) (sz : Nat) (p0 : Int32) (p1 : Int32) : Met l yX6_mask (.code yX6_mask cX6_mask 4 (some .int) :: pw) ({ frames := 1, cells := 0, slots := 0, locals := 21 }) (pc (dC, dI) [.ref h0, .int p0, .int p1] sz [(h0, .inr (6, [.ref tp, .int 0, .ref nw, .ref dr, .ref rd, .ref sc, .ref sk, .ref fl, .ref ps, .int 0, .int 0, .ref sh])), (nw, .inr (1, [.ref nm, .ref nb, .int 0, .int 0, .int 0]))] []) (va_Qi (fun (r : Int32) (_ : Unit) => r = (-1)) (fun _ _ => True) (fun _ => False)) 0 0 (fun _ => False) := by
  refine Met.ofW (cc := cX6_mask) (maxL := 4) (ret := (some .int)) (by decide +kernel) rfl ?_
  intro p e s m args below meth c s₁ B hml hv
  obtain ⟨rfl, hsz, hP, hK, hD0, hN⟩ := hv
  have hx := B.exec
  have hb := B.bytes
  have hr := B.returns
  have hts := fun w (h : w ∈ pw) => atoms_spec (ws := Cond.code yX6_mask cX6_mask 4 (some .int) :: pw) B.pre w (List.mem_cons_of_mem _ h)
  have hown : s.vm.findClass RX6 = some m.cls := findClass_of_methodNamed B.named
  have hlocks := B.notSynchronized
  subst hsz
  have hD := hD0
  obtain ⟨H, hHe⟩ : ∃ H : Heap, H = s.heap := ⟨_, rfl⟩
  have hS : va_S (fun _ => False) s.heap H [] := by rw [hHe]; exact va_S.rf
  rw [← hHe] at hP
  have hl := lv_entry ([.ref h0, .int p0, .int p1]) (n := 4) (Nat.le_of_ble_eq_true rfl)
  rw [lg_entry_eq]
  generalize (lg_sl ([.ref h0, .int p0, .int p1]) ++ List.replicate (4 - (lg_sl ([.ref h0, .int p0, .int p1])).length) Slot.unset).toArray = ls at hl ⊢
  have hl : lv_has ls 4 [(0, .ref h0), (1, .int p0), (2, .int p1)] := hl
  rw [← hHe]
  refine lv_aload_n hx hb dX6_mask_0 rfl (lv_at hl 0 rfl) ?_
  refine lv_iload_n hx hb dX6_mask_1 rfl (lv_at hl 1 rfl) ?_
  have hPc := hP.sub (ws' := [(h0, .inr (6, [.ref tp, .int 0, .ref nw, .ref dr, .ref rd, .ref sc, .ref sk, .ref fl, .ref ps, .int 0, .int 0, .ref sh])), (nw, .inr (1, [.ref nm, .ref nb, .int 0, .int 0, .int 0]))]) [0, 1] rfl
  have hDc := hD.sub (ws' := [(h0, .inr (6, [.ref tp, .int 0, .ref nw, .ref dr, .ref rd, .ref sc, .ref sk, .ref fl, .ref ps, .int 0, .int 0, .ref sh])), (nw, .inr (1, [.ref nm, .ref nb, .int 0, .int 0, .int 0]))]) [0, 1] (by decide) rfl
  have hKc := hK.sub (tys' := []) [] rfl
  refine ro_i (va_runV (As := [.int p0]) (rest := []) ⟨hx, hb, hml, hown, hts⟩ (c_X6_isMask l dC dI h0 tp nw dr rd sc sk fl ps sh nm nb H.size p0 ) (cwV 1 hts (gV pq666 pq668 pq4 pq74 pq669) rfl rfl rfl (by decide +kernel) ⟨(Nat.le_of_ble_eq_true rfl), (Nat.le_of_ble_eq_true rfl)⟩) (pc_V hPc hDc hKc hN (va_recv hK hP (ci := 6) (q0 := 0) rfl rfl)) rfl rfl hl.1 rfl (lv_room (Nat.le_of_ble_eq_true rfl)) dX6_mask_2 ⟨(Nat.le_of_ble_eq_true rfl), (Nat.le_of_ble_eq_true rfl)⟩) hS hP (fun r1 H locs hr1 hP hS => ?_)
  subst hr1
  refine lv_if_ne (tgt := 10) hx hb dX6_mask_5 (by decide) (fun c2 => absurd (by decide +kernel) c2) (fun c2 => ?_)
  refine lv_iconst (v := (-1)) hx hb dX6_mask_8 (by decide +kernel) ?_
  exact W.iret (v := (-1)) hx hb hr (fun t ht hW => ⟨⟨(-1), (), rfl, rfl, trivial⟩, hS.F ht⟩) hS.2.2 dX6_mask_9

set_option maxHeartbeats 4000000 in
set_option maxRecDepth 100000 in
theorem c_X6_dot (l : Launch) (dC : Nat → ClassId) (dI : Nat → Nat → Nat) (h0 tp nw dr rd sc sk fl ps sh nm nb : Nat) (sz : Nat) (p0 : Int32) (p1 : Int32) (p2 : Int32) : Met l yX6_dot (.code yX6_dot cX6_dot 4 (some .int) :: pw) ({ frames := 1, cells := 0, slots := 0, locals := 21 }) (pc (dC, dI) [.ref h0, .int p0, .int p1, .int p2] sz [(h0, .inr (6, [.ref tp, .int 0, .ref nw, .ref dr, .ref rd, .ref sc, .ref sk, .ref fl, .ref ps, .int 0, .int 0, .ref sh])), (nw, .inr (1, [.ref nm, .ref nb, .int 0, .int 0, .int 0]))] []) (va_Qi (fun (r : Int32) (_ : Unit) => r = (-1)) (fun _ _ => True) (fun _ => False)) 0 0 (fun _ => False) := by
  refine Met.ofW (cc := cX6_dot) (maxL := 4) (ret := (some .int)) (by decide +kernel) rfl ?_
  intro p e s m args below meth c s₁ B hml hv
  obtain ⟨rfl, hsz, hP, hK, hD0, hN⟩ := hv
  have hx := B.exec
  have hb := B.bytes
  have hr := B.returns
  have hts := fun w (h : w ∈ pw) => atoms_spec (ws := Cond.code yX6_dot cX6_dot 4 (some .int) :: pw) B.pre w (List.mem_cons_of_mem _ h)
  have hown : s.vm.findClass RX6 = some m.cls := findClass_of_methodNamed B.named
  have hlocks := B.notSynchronized
  subst hsz
  have hD := hD0
  obtain ⟨H, hHe⟩ : ∃ H : Heap, H = s.heap := ⟨_, rfl⟩
  have hS : va_S (fun _ => False) s.heap H [] := by rw [hHe]; exact va_S.rf
  rw [← hHe] at hP
  have hl := lv_entry ([.ref h0, .int p0, .int p1, .int p2]) (n := 4) (Nat.le_of_ble_eq_true rfl)
  rw [lg_entry_eq]
  generalize (lg_sl ([.ref h0, .int p0, .int p1, .int p2]) ++ List.replicate (4 - (lg_sl ([.ref h0, .int p0, .int p1, .int p2])).length) Slot.unset).toArray = ls at hl ⊢
  have hl : lv_has ls 4 [(0, .ref h0), (1, .int p0), (2, .int p1), (3, .int p2)] := hl
  rw [← hHe]
  refine lv_aload_n hx hb dX6_dot_0 rfl (lv_at hl 0 rfl) ?_
  refine lv_iload_n hx hb dX6_dot_1 rfl (lv_at hl 1 rfl) ?_
  have hPc := hP.sub (ws' := [(h0, .inr (6, [.ref tp, .int 0, .ref nw, .ref dr, .ref rd, .ref sc, .ref sk, .ref fl, .ref ps, .int 0, .int 0, .ref sh])), (nw, .inr (1, [.ref nm, .ref nb, .int 0, .int 0, .int 0]))]) [0, 1] rfl
  have hDc := hD.sub (ws' := [(h0, .inr (6, [.ref tp, .int 0, .ref nw, .ref dr, .ref rd, .ref sc, .ref sk, .ref fl, .ref ps, .int 0, .int 0, .ref sh])), (nw, .inr (1, [.ref nm, .ref nb, .int 0, .int 0, .int 0]))]) [0, 1] (by decide) rfl
  have hKc := hK.sub (tys' := []) [] rfl
  refine ro_i (va_runV (As := [.int p0]) (rest := []) ⟨hx, hb, hml, hown, hts⟩ (c_X6_isMask l dC dI h0 tp nw dr rd sc sk fl ps sh nm nb H.size p0 ) (cwV 1 hts (gV pq666 pq668 pq4 pq74 pq669) rfl rfl rfl (by decide +kernel) ⟨(Nat.le_of_ble_eq_true rfl), (Nat.le_of_ble_eq_true rfl)⟩) (pc_V hPc hDc hKc hN (va_recv hK hP (ci := 6) (q0 := 0) rfl rfl)) rfl rfl hl.1 rfl (lv_room (Nat.le_of_ble_eq_true rfl)) dX6_dot_2 ⟨(Nat.le_of_ble_eq_true rfl), (Nat.le_of_ble_eq_true rfl)⟩) hS hP (fun r1 H locs hr1 hP hS => ?_)
  subst hr1
  refine lv_if_ne (tgt := 10) hx hb dX6_dot_5 (by decide) (fun c2 => absurd (by decide +kernel) c2) (fun c2 => ?_)
  refine lv_iconst (v := (-1)) hx hb dX6_dot_8 (by decide +kernel) ?_
  exact W.iret (v := (-1)) hx hb hr (fun t ht hW => ⟨⟨(-1), (), rfl, rfl, trivial⟩, hS.F ht⟩) hS.2.2 dX6_dot_9

set_option maxHeartbeats 4000000 in
set_option maxRecDepth 100000 in
theorem c_X6_row (l : Launch) (dC : Nat → ClassId) (dI : Nat → Nat → Nat) (h0 tp nw dr rd sc sk fl ps sh nm nb : Nat) (sz : Nat) (p0 : Int32) (p1 : Int32) (p2 : Int32) : Met l yX6_row (.code yX6_row cX6_row 4 (some .long) :: pw) ({ frames := 1, cells := 0, slots := 0, locals := 21 }) (pc (dC, dI) [.ref h0, .int p0, .int p1, .int p2] sz [(h0, .inr (6, [.ref tp, .int 0, .ref nw, .ref dr, .ref rd, .ref sc, .ref sk, .ref fl, .ref ps, .int 0, .int 0, .ref sh])), (nw, .inr (1, [.ref nm, .ref nb, .int 0, .int 0, .int 0]))] []) (va_Ql (fun (r : Int64) (_ : Unit) => r = 0) (fun _ _ => True) (fun _ => False)) 0 0 (fun _ => False) := by
  refine Met.ofW (cc := cX6_row) (maxL := 4) (ret := (some .long)) (by decide +kernel) rfl ?_
  intro p e s m args below meth c s₁ B hml hv
  obtain ⟨rfl, hsz, hP, hK, hD0, hN⟩ := hv
  have hx := B.exec
  have hb := B.bytes
  have hr := B.returns
  have hts := fun w (h : w ∈ pw) => atoms_spec (ws := Cond.code yX6_row cX6_row 4 (some .long) :: pw) B.pre w (List.mem_cons_of_mem _ h)
  have hown : s.vm.findClass RX6 = some m.cls := findClass_of_methodNamed B.named
  have hlocks := B.notSynchronized
  subst hsz
  have hD := hD0
  obtain ⟨H, hHe⟩ : ∃ H : Heap, H = s.heap := ⟨_, rfl⟩
  have hS : va_S (fun _ => False) s.heap H [] := by rw [hHe]; exact va_S.rf
  rw [← hHe] at hP
  have hl := lv_entry ([.ref h0, .int p0, .int p1, .int p2]) (n := 4) (Nat.le_of_ble_eq_true rfl)
  rw [lg_entry_eq]
  generalize (lg_sl ([.ref h0, .int p0, .int p1, .int p2]) ++ List.replicate (4 - (lg_sl ([.ref h0, .int p0, .int p1, .int p2])).length) Slot.unset).toArray = ls at hl ⊢
  have hl : lv_has ls 4 [(0, .ref h0), (1, .int p0), (2, .int p1), (3, .int p2)] := hl
  rw [← hHe]
  refine lv_aload_n hx hb dX6_row_0 rfl (lv_at hl 0 rfl) ?_
  refine lv_iload_n hx hb dX6_row_1 rfl (lv_at hl 1 rfl) ?_
  have hPc := hP.sub (ws' := [(h0, .inr (6, [.ref tp, .int 0, .ref nw, .ref dr, .ref rd, .ref sc, .ref sk, .ref fl, .ref ps, .int 0, .int 0, .ref sh])), (nw, .inr (1, [.ref nm, .ref nb, .int 0, .int 0, .int 0]))]) [0, 1] rfl
  have hDc := hD.sub (ws' := [(h0, .inr (6, [.ref tp, .int 0, .ref nw, .ref dr, .ref rd, .ref sc, .ref sk, .ref fl, .ref ps, .int 0, .int 0, .ref sh])), (nw, .inr (1, [.ref nm, .ref nb, .int 0, .int 0, .int 0]))]) [0, 1] (by decide) rfl
  have hKc := hK.sub (tys' := []) [] rfl
  refine ro_i (va_runV (As := [.int p0]) (rest := []) ⟨hx, hb, hml, hown, hts⟩ (c_X6_isMask l dC dI h0 tp nw dr rd sc sk fl ps sh nm nb H.size p0 ) (cwV 1 hts (gV pq666 pq668 pq4 pq74 pq669) rfl rfl rfl (by decide +kernel) ⟨(Nat.le_of_ble_eq_true rfl), (Nat.le_of_ble_eq_true rfl)⟩) (pc_V hPc hDc hKc hN (va_recv hK hP (ci := 6) (q0 := 0) rfl rfl)) rfl rfl hl.1 rfl (lv_room (Nat.le_of_ble_eq_true rfl)) dX6_row_2 ⟨(Nat.le_of_ble_eq_true rfl), (Nat.le_of_ble_eq_true rfl)⟩) hS hP (fun r1 H locs hr1 hP hS => ?_)
  subst hr1
  refine lv_if_eq (tgt := 36) hx hb dX6_row_5 (by decide) (fun c2 => ?_) (fun c2 => absurd (by decide +kernel) c2)
  refine lv_lconst (v := 0) hx hb dX6_row_36 (by decide +kernel) ?_
  exact W.lret (v := 0) hx hb hr (fun t ht hW => ⟨⟨0, (), rfl, rfl, trivial⟩, hS.F ht⟩) hS.2.2 dX6_row_37

set_option maxHeartbeats 4000000 in
set_option maxRecDepth 100000 in
theorem c_X6_body (l : Launch) (dC : Nat → ClassId) (dI : Nat → Nat → Nat) (h0 tp nw dr rd sc sk fl ps sh nm nb : Nat) (sz : Nat) (p0 : Int32) (p1 : Int32) : Met l yX6_body (.code yX6_body cX6_body 3 (some .int) :: pw) ({ frames := 1, cells := 0, slots := 0, locals := 21 }) (pc (dC, dI) [.ref h0, .int p0, .int p1] sz [(h0, .inr (6, [.ref tp, .int 0, .ref nw, .ref dr, .ref rd, .ref sc, .ref sk, .ref fl, .ref ps, .int 0, .int 0, .ref sh])), (nw, .inr (1, [.ref nm, .ref nb, .int 0, .int 0, .int 0]))] []) (va_Qi (fun (r : Int32) (_ : Unit) => r = (-2000)) (fun _ _ => True) (fun _ => False)) 0 0 (fun _ => False) := by
  refine Met.ofW (cc := cX6_body) (maxL := 3) (ret := (some .int)) (by decide +kernel) rfl ?_
  intro p e s m args below meth c s₁ B hml hv
  obtain ⟨rfl, hsz, hP, hK, hD0, hN⟩ := hv
  have hx := B.exec
  have hb := B.bytes
  have hr := B.returns
  have hts := fun w (h : w ∈ pw) => atoms_spec (ws := Cond.code yX6_body cX6_body 3 (some .int) :: pw) B.pre w (List.mem_cons_of_mem _ h)
  have hown : s.vm.findClass RX6 = some m.cls := findClass_of_methodNamed B.named
  have hlocks := B.notSynchronized
  subst hsz
  have hD := hD0
  obtain ⟨H, hHe⟩ : ∃ H : Heap, H = s.heap := ⟨_, rfl⟩
  have hS : va_S (fun _ => False) s.heap H [] := by rw [hHe]; exact va_S.rf
  rw [← hHe] at hP
  have hl := lv_entry ([.ref h0, .int p0, .int p1]) (n := 3) (Nat.le_of_ble_eq_true rfl)
  rw [lg_entry_eq]
  generalize (lg_sl ([.ref h0, .int p0, .int p1]) ++ List.replicate (3 - (lg_sl ([.ref h0, .int p0, .int p1])).length) Slot.unset).toArray = ls at hl ⊢
  have hl : lv_has ls 3 [(0, .ref h0), (1, .int p0), (2, .int p1)] := hl
  rw [← hHe]
  refine lv_aload_n hx hb dX6_body_0 rfl (lv_at hl 0 rfl) ?_
  refine lv_iload_n hx hb dX6_body_1 rfl (lv_at hl 1 rfl) ?_
  have hPc := hP.sub (ws' := [(h0, .inr (6, [.ref tp, .int 0, .ref nw, .ref dr, .ref rd, .ref sc, .ref sk, .ref fl, .ref ps, .int 0, .int 0, .ref sh])), (nw, .inr (1, [.ref nm, .ref nb, .int 0, .int 0, .int 0]))]) [0, 1] rfl
  have hDc := hD.sub (ws' := [(h0, .inr (6, [.ref tp, .int 0, .ref nw, .ref dr, .ref rd, .ref sc, .ref sk, .ref fl, .ref ps, .int 0, .int 0, .ref sh])), (nw, .inr (1, [.ref nm, .ref nb, .int 0, .int 0, .int 0]))]) [0, 1] (by decide) rfl
  have hKc := hK.sub (tys' := []) [] rfl
  refine ro_i (va_runV (As := [.int p0]) (rest := []) ⟨hx, hb, hml, hown, hts⟩ (c_X6_isBody l dC dI h0 tp nw dr rd sc sk fl ps sh nm nb H.size p0 ) (cwV 1 hts (gV pq636 pq638 pq2 pq74 pq639) rfl rfl rfl (by decide +kernel) ⟨(Nat.le_of_ble_eq_true rfl), (Nat.le_of_ble_eq_true rfl)⟩) (pc_V hPc hDc hKc hN (va_recv hK hP (ci := 6) (q0 := 0) rfl rfl)) rfl rfl hl.1 rfl (lv_room (Nat.le_of_ble_eq_true rfl)) dX6_body_2 ⟨(Nat.le_of_ble_eq_true rfl), (Nat.le_of_ble_eq_true rfl)⟩) hS hP (fun r1 H locs hr1 hP hS => ?_)
  subst hr1
  refine lv_if_eq (tgt := 17) hx hb dX6_body_5 (by decide) (fun c2 => ?_) (fun c2 => absurd (by decide +kernel) c2)
  refine lv_sipush (v := (-2000)) hx hb dX6_body_17 (by decide +kernel) ?_
  exact W.iret (v := (-2000)) hx hb hr (fun t ht hW => ⟨⟨(-2000), (), rfl, rfl, trivial⟩, hS.F ht⟩) hS.2.2 dX6_body_20

set_option maxHeartbeats 4000000 in
set_option maxRecDepth 100000 in
theorem c_X6_common (l : Launch) (dC : Nat → ClassId) (dI : Nat → Nat → Nat) (h0 tp nw dr rd sc sk fl ps sh nm nb : Nat) (sz : Nat) (p0 : Int32) (p1 : Int32) : Met l yX6_common (.code yX6_common cX6_common 3 (some .int) :: pw) ({ frames := 2, cells := 0, slots := 0, locals := 43 }) (pc (dC, dI) [.ref h0, .int p0, .int p1] sz [(h0, .inr (6, [.ref tp, .int 0, .ref nw, .ref dr, .ref rd, .ref sc, .ref sk, .ref fl, .ref ps, .int 0, .int 0, .ref sh])), (nw, .inr (1, [.ref nm, .ref nb, .int 0, .int 0, .int 0]))] []) (va_Qi (fun (r : Int32) (_ : Unit) => r = (-1)) (fun _ _ => True) (fun _ => False)) 0 0 (fun _ => False) := by
  refine Met.ofW (cc := cX6_common) (maxL := 3) (ret := (some .int)) (by decide +kernel) rfl ?_
  intro p e s m args below meth c s₁ B hml hv
  obtain ⟨rfl, hsz, hP, hK, hD0, hN⟩ := hv
  have hx := B.exec
  have hb := B.bytes
  have hr := B.returns
  have hts := fun w (h : w ∈ pw) => atoms_spec (ws := Cond.code yX6_common cX6_common 3 (some .int) :: pw) B.pre w (List.mem_cons_of_mem _ h)
  have hown : s.vm.findClass RX6 = some m.cls := findClass_of_methodNamed B.named
  have hlocks := B.notSynchronized
  subst hsz
  have hD := hD0
  obtain ⟨H, hHe⟩ : ∃ H : Heap, H = s.heap := ⟨_, rfl⟩
  have hS : va_S (fun _ => False) s.heap H [] := by rw [hHe]; exact va_S.rf
  rw [← hHe] at hP
  have hl := lv_entry ([.ref h0, .int p0, .int p1]) (n := 3) (Nat.le_of_ble_eq_true rfl)
  rw [lg_entry_eq]
  generalize (lg_sl ([.ref h0, .int p0, .int p1]) ++ List.replicate (3 - (lg_sl ([.ref h0, .int p0, .int p1])).length) Slot.unset).toArray = ls at hl ⊢
  have hl : lv_has ls 3 [(0, .ref h0), (1, .int p0), (2, .int p1)] := hl
  rw [← hHe]
  refine lv_aload_n hx hb dX6_common_0 rfl (lv_at hl 0 rfl) ?_
  refine lv_iload_n hx hb dX6_common_1 rfl (lv_at hl 1 rfl) ?_
  refine lv_iload_n hx hb dX6_common_2 rfl (lv_at hl 2 rfl) ?_
  have hPc := hP.sub (ws' := [(h0, .inr (6, [.ref tp, .int 0, .ref nw, .ref dr, .ref rd, .ref sc, .ref sk, .ref fl, .ref ps, .int 0, .int 0, .ref sh])), (nw, .inr (1, [.ref nm, .ref nb, .int 0, .int 0, .int 0]))]) [0, 1] rfl
  have hDc := hD.sub (ws' := [(h0, .inr (6, [.ref tp, .int 0, .ref nw, .ref dr, .ref rd, .ref sc, .ref sk, .ref fl, .ref ps, .int 0, .int 0, .ref sh])), (nw, .inr (1, [.ref nm, .ref nb, .int 0, .int 0, .int 0]))]) [0, 1] (by decide) rfl
  have hKc := hK.sub (tys' := []) [] rfl
  refine ro_i (va_runV (As := [.int p0, .int p1]) (rest := []) ⟨hx, hb, hml, hown, hts⟩ (c_X6_areTwoBodies l dC dI h0 tp nw dr rd sc sk fl ps sh nm nb H.size p0 p1 ) (cwV 2 hts (gV pq970 pq972 pq7 pq74 pq973) rfl rfl rfl (by decide +kernel) ⟨(Nat.le_of_ble_eq_true rfl), (Nat.le_of_ble_eq_true rfl)⟩) (pc_V hPc hDc hKc hN (va_recv hK hP (ci := 6) (q0 := 0) rfl rfl)) rfl rfl hl.1 rfl (lv_room (Nat.le_of_ble_eq_true rfl)) dX6_common_3 ⟨(Nat.le_of_ble_eq_true rfl), (Nat.le_of_ble_eq_true rfl)⟩) hS hP (fun r1 H locs hr1 hP hS => ?_)
  subst hr1
  refine lv_if_ne (tgt := 11) hx hb dX6_common_6 (by decide) (fun c2 => absurd (by decide +kernel) c2) (fun c2 => ?_)
  refine lv_iconst (v := (-1)) hx hb dX6_common_9 (by decide +kernel) ?_
  exact W.iret (v := (-1)) hx hb hr (fun t ht hW => ⟨⟨(-1), (), rfl, rfl, trivial⟩, hS.F ht⟩) hS.2.2 dX6_common_10

set_option maxHeartbeats 4000000 in
set_option maxRecDepth 100000 in
theorem c_X6_meet (l : Launch) (dC : Nat → ClassId) (dI : Nat → Nat → Nat) (h0 tp nw dr rd sc sk fl ps sh nm nb : Nat) (sz : Nat) (p0 : Int32) (p1 : Int32) (p2 : Int32) : Met l yX6_meet (.code yX6_meet cX6_meet 4 (some .int) :: pw) ({ frames := 2, cells := 0, slots := 0, locals := 43 }) (pc (dC, dI) [.ref h0, .int p0, .int p1, .int p2] sz [(h0, .inr (6, [.ref tp, .int 0, .ref nw, .ref dr, .ref rd, .ref sc, .ref sk, .ref fl, .ref ps, .int 0, .int 0, .ref sh])), (nw, .inr (1, [.ref nm, .ref nb, .int 0, .int 0, .int 0]))] []) (va_Qi (fun (r : Int32) (_ : Unit) => r = (-2000)) (fun _ _ => True) (fun _ => False)) 0 0 (fun _ => False) := by
  refine Met.ofW (cc := cX6_meet) (maxL := 4) (ret := (some .int)) (by decide +kernel) rfl ?_
  intro p e s m args below meth c s₁ B hml hv
  obtain ⟨rfl, hsz, hP, hK, hD0, hN⟩ := hv
  have hx := B.exec
  have hb := B.bytes
  have hr := B.returns
  have hts := fun w (h : w ∈ pw) => atoms_spec (ws := Cond.code yX6_meet cX6_meet 4 (some .int) :: pw) B.pre w (List.mem_cons_of_mem _ h)
  have hown : s.vm.findClass RX6 = some m.cls := findClass_of_methodNamed B.named
  have hlocks := B.notSynchronized
  subst hsz
  have hD := hD0
  obtain ⟨H, hHe⟩ : ∃ H : Heap, H = s.heap := ⟨_, rfl⟩
  have hS : va_S (fun _ => False) s.heap H [] := by rw [hHe]; exact va_S.rf
  rw [← hHe] at hP
  have hl := lv_entry ([.ref h0, .int p0, .int p1, .int p2]) (n := 4) (Nat.le_of_ble_eq_true rfl)
  rw [lg_entry_eq]
  generalize (lg_sl ([.ref h0, .int p0, .int p1, .int p2]) ++ List.replicate (4 - (lg_sl ([.ref h0, .int p0, .int p1, .int p2])).length) Slot.unset).toArray = ls at hl ⊢
  have hl : lv_has ls 4 [(0, .ref h0), (1, .int p0), (2, .int p1), (3, .int p2)] := hl
  rw [← hHe]
  refine lv_aload_n hx hb dX6_meet_0 rfl (lv_at hl 0 rfl) ?_
  refine lv_iload_n hx hb dX6_meet_1 rfl (lv_at hl 1 rfl) ?_
  refine lv_iload_n hx hb dX6_meet_2 rfl (lv_at hl 2 rfl) ?_
  have hPc := hP.sub (ws' := [(h0, .inr (6, [.ref tp, .int 0, .ref nw, .ref dr, .ref rd, .ref sc, .ref sk, .ref fl, .ref ps, .int 0, .int 0, .ref sh])), (nw, .inr (1, [.ref nm, .ref nb, .int 0, .int 0, .int 0]))]) [0, 1] rfl
  have hDc := hD.sub (ws' := [(h0, .inr (6, [.ref tp, .int 0, .ref nw, .ref dr, .ref rd, .ref sc, .ref sk, .ref fl, .ref ps, .int 0, .int 0, .ref sh])), (nw, .inr (1, [.ref nm, .ref nb, .int 0, .int 0, .int 0]))]) [0, 1] (by decide) rfl
  have hKc := hK.sub (tys' := []) [] rfl
  refine ro_i (va_runV (As := [.int p0, .int p1]) (rest := []) ⟨hx, hb, hml, hown, hts⟩ (c_X6_areTwoBodies l dC dI h0 tp nw dr rd sc sk fl ps sh nm nb H.size p0 p1 ) (cwV 2 hts (gV pq970 pq972 pq7 pq74 pq973) rfl rfl rfl (by decide +kernel) ⟨(Nat.le_of_ble_eq_true rfl), (Nat.le_of_ble_eq_true rfl)⟩) (pc_V hPc hDc hKc hN (va_recv hK hP (ci := 6) (q0 := 0) rfl rfl)) rfl rfl hl.1 rfl (lv_room (Nat.le_of_ble_eq_true rfl)) dX6_meet_3 ⟨(Nat.le_of_ble_eq_true rfl), (Nat.le_of_ble_eq_true rfl)⟩) hS hP (fun r1 H locs hr1 hP hS => ?_)
  subst hr1
  refine lv_if_eq (tgt := 17) hx hb dX6_meet_6 (by decide) (fun c2 => ?_) (fun c2 => absurd (by decide +kernel) c2)
  refine lv_sipush (v := (-2000)) hx hb dX6_meet_17 (by decide +kernel) ?_
  exact W.iret (v := (-2000)) hx hb hr (fun t ht hW => ⟨⟨(-2000), (), rfl, rfl, trivial⟩, hS.F ht⟩) hS.2.2 dX6_meet_20
end
section
abbrev cX6_alike : ByteArray := prog_1_method_41_code
abbrev cX6_apart : ByteArray := prog_1_method_53_code
abbrev cX6_best : ByteArray := prog_1_method_54_code
abbrev cX6_dense : ByteArray := prog_1_method_36_code
abbrev cX6_dots : ByteArray := prog_1_method_37_code
abbrev cX6_first : ByteArray := prog_1_method_50_code
abbrev cX6_gap : ByteArray := prog_1_method_52_code
abbrev cX6_island : ByteArray := prog_1_method_32_code
abbrev cX6_letter : ByteArray := prog_1_method_35_code
abbrev cX6_like : ByteArray := prog_1_method_34_code
abbrev cX6_reach : ByteArray := prog_1_method_51_code
abbrev cX6_seen : ByteArray := prog_1_method_57_code
abbrev cX6_share : ByteArray := prog_1_method_39_code
abbrev cX6_shifts : ByteArray := prog_1_method_33_code
abbrev cX6_slope : ByteArray := prog_1_method_55_code
abbrev cX6_spread : ByteArray := prog_1_method_38_code
abbrev cX6_touching : ByteArray := prog_1_method_48_code
def yX6_alike : MethodName := ⟨RX6, "alike", "(III)I"⟩
def yX6_apart : MethodName := ⟨RX6, "apart", "(III)I"⟩
def yX6_best : MethodName := ⟨RX6, "best", "(III)I"⟩
def yX6_dense : MethodName := ⟨RX6, "dense", "(IIII)I"⟩
def yX6_dots : MethodName := ⟨RX6, "dots", "(IZI)I"⟩
def yX6_first : MethodName := ⟨RX6, "first", "(III)I"⟩
def yX6_gap : MethodName := ⟨RX6, "gap", "(III)I"⟩
def yX6_island : MethodName := ⟨RX6, "island", "(III)I"⟩
def yX6_letter : MethodName := ⟨RX6, "letter", "(II)I"⟩
def yX6_like : MethodName := ⟨RX6, "like", "(I)I"⟩
def yX6_reach : MethodName := ⟨RX6, "reach", "(IIII)I"⟩
def yX6_seen : MethodName := ⟨RX6, "seen", "(II)I"⟩
def yX6_share : MethodName := ⟨RX6, "share", "(I)J"⟩
def yX6_shifts : MethodName := ⟨RX6, "shifts", "(II)I"⟩
def yX6_slope : MethodName := ⟨RX6, "slope", "(III)I"⟩
def yX6_spread : MethodName := ⟨RX6, "spread", "(II)I"⟩
def yX6_touching : MethodName := ⟨RX6, "touching", "(I)I"⟩
theorem dX6_alike_0 : decode cX6_alike 0 = .ok (.aload_n 0, 1) := by decide +kernel
theorem dX6_alike_1 : decode cX6_alike 1 = .ok (.iload_n 1, 1) := by decide +kernel
theorem dX6_alike_2 : decode cX6_alike 2 = .ok (.invokevirtual 130, 3) := by decide +kernel
theorem dX6_alike_5 : decode cX6_alike 5 = .ok (.ifCond .eq 19, 3) := by decide +kernel
theorem dX6_alike_24 : decode cX6_alike 24 = .ok (.iconst (-1), 1) := by decide +kernel
theorem dX6_alike_25 : decode cX6_alike 25 = .ok (.ireturn, 1) := by decide +kernel
theorem dX6_apart_0 : decode cX6_apart 0 = .ok (.aload_n 0, 1) := by decide +kernel
theorem dX6_apart_1 : decode cX6_apart 1 = .ok (.iload_n 1, 1) := by decide +kernel
theorem dX6_apart_2 : decode cX6_apart 2 = .ok (.iload_n 2, 1) := by decide +kernel
theorem dX6_apart_3 : decode cX6_apart 3 = .ok (.invokevirtual 303, 3) := by decide +kernel
theorem dX6_apart_6 : decode cX6_apart 6 = .ok (.ifCond .eq 11, 3) := by decide +kernel
theorem dX6_apart_17 : decode cX6_apart 17 = .ok (.sipush (-2000), 3) := by decide +kernel
theorem dX6_apart_20 : decode cX6_apart 20 = .ok (.ireturn, 1) := by decide +kernel
theorem dX6_best_0 : decode cX6_best 0 = .ok (.aload_n 0, 1) := by decide +kernel
theorem dX6_best_1 : decode cX6_best 1 = .ok (.iload_n 1, 1) := by decide +kernel
theorem dX6_best_2 : decode cX6_best 2 = .ok (.iload_n 2, 1) := by decide +kernel
theorem dX6_best_3 : decode cX6_best 3 = .ok (.invokevirtual 303, 3) := by decide +kernel
theorem dX6_best_6 : decode cX6_best 6 = .ok (.ifCond .eq 11, 3) := by decide +kernel
theorem dX6_best_17 : decode cX6_best 17 = .ok (.sipush (-2000), 3) := by decide +kernel
theorem dX6_best_20 : decode cX6_best 20 = .ok (.ireturn, 1) := by decide +kernel
theorem dX6_dense_0 : decode cX6_dense 0 = .ok (.aload_n 0, 1) := by decide +kernel
theorem dX6_dense_1 : decode cX6_dense 1 = .ok (.iload_n 1, 1) := by decide +kernel
theorem dX6_dense_2 : decode cX6_dense 2 = .ok (.invokevirtual 130, 3) := by decide +kernel
theorem dX6_dense_5 : decode cX6_dense 5 = .ok (.ifCond .eq 12, 3) := by decide +kernel
theorem dX6_dense_17 : decode cX6_dense 17 = .ok (.iconst (-1), 1) := by decide +kernel
theorem dX6_dense_18 : decode cX6_dense 18 = .ok (.ireturn, 1) := by decide +kernel
theorem dX6_dots_0 : decode cX6_dots 0 = .ok (.aload_n 0, 1) := by decide +kernel
theorem dX6_dots_1 : decode cX6_dots 1 = .ok (.iload_n 1, 1) := by decide +kernel
theorem dX6_dots_2 : decode cX6_dots 2 = .ok (.invokevirtual 130, 3) := by decide +kernel
theorem dX6_dots_5 : decode cX6_dots 5 = .ok (.ifCond .eq 7, 3) := by decide +kernel
theorem dX6_dots_12 : decode cX6_dots 12 = .ok (.iconst (-1), 1) := by decide +kernel
theorem dX6_dots_13 : decode cX6_dots 13 = .ok (.ireturn, 1) := by decide +kernel
theorem dX6_first_0 : decode cX6_first 0 = .ok (.aload_n 0, 1) := by decide +kernel
theorem dX6_first_1 : decode cX6_first 1 = .ok (.iload_n 1, 1) := by decide +kernel
theorem dX6_first_2 : decode cX6_first 2 = .ok (.iload_n 2, 1) := by decide +kernel
theorem dX6_first_3 : decode cX6_first 3 = .ok (.invokevirtual 303, 3) := by decide +kernel
theorem dX6_first_6 : decode cX6_first 6 = .ok (.ifCond .eq 13, 3) := by decide +kernel
theorem dX6_first_19 : decode cX6_first 19 = .ok (.iconst (-1), 1) := by decide +kernel
theorem dX6_first_20 : decode cX6_first 20 = .ok (.ireturn, 1) := by decide +kernel
theorem dX6_gap_0 : decode cX6_gap 0 = .ok (.aload_n 0, 1) := by decide +kernel
theorem dX6_gap_1 : decode cX6_gap 1 = .ok (.iload_n 1, 1) := by decide +kernel
theorem dX6_gap_2 : decode cX6_gap 2 = .ok (.iload_n 2, 1) := by decide +kernel
theorem dX6_gap_3 : decode cX6_gap 3 = .ok (.invokevirtual 303, 3) := by decide +kernel
theorem dX6_gap_6 : decode cX6_gap 6 = .ok (.ifCond .ne 5, 3) := by decide +kernel
theorem dX6_gap_9 : decode cX6_gap 9 = .ok (.iconst (-1), 1) := by decide +kernel
theorem dX6_gap_10 : decode cX6_gap 10 = .ok (.ireturn, 1) := by decide +kernel
theorem dX6_island_0 : decode cX6_island 0 = .ok (.aload_n 0, 1) := by decide +kernel
theorem dX6_island_1 : decode cX6_island 1 = .ok (.iload_n 1, 1) := by decide +kernel
theorem dX6_island_2 : decode cX6_island 2 = .ok (.invokevirtual 130, 3) := by decide +kernel
theorem dX6_island_5 : decode cX6_island 5 = .ok (.ifCond .eq 16, 3) := by decide +kernel
theorem dX6_island_21 : decode cX6_island 21 = .ok (.iconst (-1), 1) := by decide +kernel
theorem dX6_island_22 : decode cX6_island 22 = .ok (.ireturn, 1) := by decide +kernel
theorem dX6_letter_0 : decode cX6_letter 0 = .ok (.aload_n 0, 1) := by decide +kernel
theorem dX6_letter_1 : decode cX6_letter 1 = .ok (.iload_n 1, 1) := by decide +kernel
theorem dX6_letter_2 : decode cX6_letter 2 = .ok (.invokevirtual 130, 3) := by decide +kernel
theorem dX6_letter_5 : decode cX6_letter 5 = .ok (.ifCond .eq 8, 3) := by decide +kernel
theorem dX6_letter_13 : decode cX6_letter 13 = .ok (.iconst (-1), 1) := by decide +kernel
theorem dX6_letter_14 : decode cX6_letter 14 = .ok (.ireturn, 1) := by decide +kernel
theorem dX6_like_0 : decode cX6_like 0 = .ok (.aload_n 0, 1) := by decide +kernel
theorem dX6_like_1 : decode cX6_like 1 = .ok (.iload_n 1, 1) := by decide +kernel
theorem dX6_like_2 : decode cX6_like 2 = .ok (.invokevirtual 130, 3) := by decide +kernel
theorem dX6_like_5 : decode cX6_like 5 = .ok (.ifCond .ne 5, 3) := by decide +kernel
theorem dX6_like_8 : decode cX6_like 8 = .ok (.iconst (-1), 1) := by decide +kernel
theorem dX6_like_9 : decode cX6_like 9 = .ok (.ireturn, 1) := by decide +kernel
theorem dX6_reach_0 : decode cX6_reach 0 = .ok (.aload_n 0, 1) := by decide +kernel
theorem dX6_reach_1 : decode cX6_reach 1 = .ok (.iload_n 1, 1) := by decide +kernel
theorem dX6_reach_2 : decode cX6_reach 2 = .ok (.invokevirtual 86, 3) := by decide +kernel
theorem dX6_reach_5 : decode cX6_reach 5 = .ok (.ifCond .eq 32, 3) := by decide +kernel
theorem dX6_reach_37 : decode cX6_reach 37 = .ok (.iconst (-1), 1) := by decide +kernel
theorem dX6_reach_38 : decode cX6_reach 38 = .ok (.ireturn, 1) := by decide +kernel
theorem dX6_seen_0 : decode cX6_seen 0 = .ok (.aload_n 0, 1) := by decide +kernel
theorem dX6_seen_1 : decode cX6_seen 1 = .ok (.iload_n 1, 1) := by decide +kernel
theorem dX6_seen_2 : decode cX6_seen 2 = .ok (.iload_n 2, 1) := by decide +kernel
theorem dX6_seen_3 : decode cX6_seen 3 = .ok (.invokevirtual 303, 3) := by decide +kernel
theorem dX6_seen_6 : decode cX6_seen 6 = .ok (.ifCond .eq 25, 3) := by decide +kernel
theorem dX6_seen_31 : decode cX6_seen 31 = .ok (.iconst (-1), 1) := by decide +kernel
theorem dX6_seen_32 : decode cX6_seen 32 = .ok (.ireturn, 1) := by decide +kernel
theorem dX6_share_0 : decode cX6_share 0 = .ok (.aload_n 0, 1) := by decide +kernel
theorem dX6_share_1 : decode cX6_share 1 = .ok (.iload_n 1, 1) := by decide +kernel
theorem dX6_share_2 : decode cX6_share 2 = .ok (.invokevirtual 130, 3) := by decide +kernel
theorem dX6_share_5 : decode cX6_share 5 = .ok (.ifCond .ne 7, 3) := by decide +kernel
theorem dX6_share_8 : decode cX6_share 8 = .ok (.ldc2_w 291, 3) := by decide +kernel
theorem dX6_share_11 : decode cX6_share 11 = .ok (.lreturn, 1) := by decide +kernel
theorem dX6_shifts_0 : decode cX6_shifts 0 = .ok (.aload_n 0, 1) := by decide +kernel
theorem dX6_shifts_1 : decode cX6_shifts 1 = .ok (.iload_n 1, 1) := by decide +kernel
theorem dX6_shifts_2 : decode cX6_shifts 2 = .ok (.invokevirtual 130, 3) := by decide +kernel
theorem dX6_shifts_5 : decode cX6_shifts 5 = .ok (.ifCond .eq 11, 3) := by decide +kernel
theorem dX6_shifts_16 : decode cX6_shifts 16 = .ok (.iconst (-1), 1) := by decide +kernel
theorem dX6_shifts_17 : decode cX6_shifts 17 = .ok (.ireturn, 1) := by decide +kernel
theorem dX6_slope_0 : decode cX6_slope 0 = .ok (.aload_n 0, 1) := by decide +kernel
theorem dX6_slope_1 : decode cX6_slope 1 = .ok (.iload_n 1, 1) := by decide +kernel
theorem dX6_slope_2 : decode cX6_slope 2 = .ok (.iload_n 2, 1) := by decide +kernel
theorem dX6_slope_3 : decode cX6_slope 3 = .ok (.invokevirtual 303, 3) := by decide +kernel
theorem dX6_slope_6 : decode cX6_slope 6 = .ok (.ifCond .eq 11, 3) := by decide +kernel
theorem dX6_slope_17 : decode cX6_slope 17 = .ok (.ldc_w 350, 3) := by decide +kernel
theorem dX6_slope_20 : decode cX6_slope 20 = .ok (.ireturn, 1) := by decide +kernel
theorem dX6_spread_0 : decode cX6_spread 0 = .ok (.aload_n 0, 1) := by decide +kernel
theorem dX6_spread_1 : decode cX6_spread 1 = .ok (.iload_n 1, 1) := by decide +kernel
theorem dX6_spread_2 : decode cX6_spread 2 = .ok (.invokevirtual 130, 3) := by decide +kernel
theorem dX6_spread_5 : decode cX6_spread 5 = .ok (.ifCond .ne 5, 3) := by decide +kernel
theorem dX6_spread_8 : decode cX6_spread 8 = .ok (.iconst (-1), 1) := by decide +kernel
theorem dX6_spread_9 : decode cX6_spread 9 = .ok (.ireturn, 1) := by decide +kernel
theorem dX6_touching_0 : decode cX6_touching 0 = .ok (.aload_n 0, 1) := by decide +kernel
theorem dX6_touching_1 : decode cX6_touching 1 = .ok (.iload_n 1, 1) := by decide +kernel
theorem dX6_touching_2 : decode cX6_touching 2 = .ok (.invokevirtual 86, 3) := by decide +kernel
theorem dX6_touching_5 : decode cX6_touching 5 = .ok (.ifCond .ne 5, 3) := by decide +kernel
theorem dX6_touching_8 : decode cX6_touching 8 = .ok (.iconst (-1), 1) := by decide +kernel
theorem dX6_touching_9 : decode cX6_touching 9 = .ok (.ireturn, 1) := by decide +kernel
set_option maxRecDepth 100000 in
theorem pq949 : Cond.constantLong RX6 291 (-1) ∈ pw := pw_mem (i := 949) (by decide +kernel) rfl
set_option maxRecDepth 100000 in
theorem pq1068 : Cond.constant RX6 350 (-2000000) ∈ pw := pw_mem (i := 1068) (by decide +kernel) rfl
set_option maxHeartbeats 4000000 in
set_option maxRecDepth 100000 in
theorem c_X6_touching (l : Launch) (dC : Nat → ClassId) (dI : Nat → Nat → Nat) (h0 tp nw dr rd sc sk fl ps sh nm nb : Nat) (sz : Nat) (p0 : Int32) : Met l yX6_touching (.code yX6_touching cX6_touching 4 (some .int) :: pw) ({ frames := 1, cells := 0, slots := 0, locals := 21 }) (pc (dC, dI) [.ref h0, .int p0] sz [(h0, .inr (6, [.ref tp, .int 0, .ref nw, .ref dr, .ref rd, .ref sc, .ref sk, .ref fl, .ref ps, .int 0, .int 0, .ref sh])), (nw, .inr (1, [.ref nm, .ref nb, .int 0, .int 0, .int 0]))] []) (va_Qi (fun (r : Int32) (_ : Unit) => r = (-1)) (fun _ _ => True) (fun _ => False)) 0 0 (fun _ => False) := by
  refine Met.ofW (cc := cX6_touching) (maxL := 4) (ret := (some .int)) (by decide +kernel) rfl ?_
  intro p e s m args below meth c s₁ B hml hv
  obtain ⟨rfl, hsz, hP, hK, hD0, hN⟩ := hv
  have hx := B.exec
  have hb := B.bytes
  have hr := B.returns
  have hts := fun w (h : w ∈ pw) => atoms_spec (ws := Cond.code yX6_touching cX6_touching 4 (some .int) :: pw) B.pre w (List.mem_cons_of_mem _ h)
  have hown : s.vm.findClass RX6 = some m.cls := findClass_of_methodNamed B.named
  have hlocks := B.notSynchronized
  subst hsz
  have hD := hD0
  obtain ⟨H, hHe⟩ : ∃ H : Heap, H = s.heap := ⟨_, rfl⟩
  have hS : va_S (fun _ => False) s.heap H [] := by rw [hHe]; exact va_S.rf
  rw [← hHe] at hP
  have hl := lv_entry ([.ref h0, .int p0]) (n := 4) (Nat.le_of_ble_eq_true rfl)
  rw [lg_entry_eq]
  generalize (lg_sl ([.ref h0, .int p0]) ++ List.replicate (4 - (lg_sl ([.ref h0, .int p0])).length) Slot.unset).toArray = ls at hl ⊢
  have hl : lv_has ls 4 [(0, .ref h0), (1, .int p0)] := hl
  rw [← hHe]
  refine lv_aload_n hx hb dX6_touching_0 rfl (lv_at hl 0 rfl) ?_
  refine lv_iload_n hx hb dX6_touching_1 rfl (lv_at hl 1 rfl) ?_
  have hPc := hP.sub (ws' := [(h0, .inr (6, [.ref tp, .int 0, .ref nw, .ref dr, .ref rd, .ref sc, .ref sk, .ref fl, .ref ps, .int 0, .int 0, .ref sh])), (nw, .inr (1, [.ref nm, .ref nb, .int 0, .int 0, .int 0]))]) [0, 1] rfl
  have hDc := hD.sub (ws' := [(h0, .inr (6, [.ref tp, .int 0, .ref nw, .ref dr, .ref rd, .ref sc, .ref sk, .ref fl, .ref ps, .int 0, .int 0, .ref sh])), (nw, .inr (1, [.ref nm, .ref nb, .int 0, .int 0, .int 0]))]) [0, 1] (by decide) rfl
  have hKc := hK.sub (tys' := []) [] rfl
  refine ro_i (va_runV (As := [.int p0]) (rest := []) ⟨hx, hb, hml, hown, hts⟩ (c_X6_isBody l dC dI h0 tp nw dr rd sc sk fl ps sh nm nb H.size p0 ) (cwV 1 hts (gV pq636 pq638 pq2 pq74 pq639) rfl rfl rfl (by decide +kernel) ⟨(Nat.le_of_ble_eq_true rfl), (Nat.le_of_ble_eq_true rfl)⟩) (pc_V hPc hDc hKc hN (va_recv hK hP (ci := 6) (q0 := 0) rfl rfl)) rfl rfl hl.1 rfl (lv_room (Nat.le_of_ble_eq_true rfl)) dX6_touching_2 ⟨(Nat.le_of_ble_eq_true rfl), (Nat.le_of_ble_eq_true rfl)⟩) hS hP (fun r1 H locs hr1 hP hS => ?_)
  subst hr1
  refine lv_if_ne (tgt := 10) hx hb dX6_touching_5 (by decide) (fun c2 => absurd (by decide +kernel) c2) (fun c2 => ?_)
  refine lv_iconst (v := (-1)) hx hb dX6_touching_8 (by decide +kernel) ?_
  exact W.iret (v := (-1)) hx hb hr (fun t ht hW => ⟨⟨(-1), (), rfl, rfl, trivial⟩, hS.F ht⟩) hS.2.2 dX6_touching_9

set_option maxHeartbeats 4000000 in
set_option maxRecDepth 100000 in
theorem c_X6_first (l : Launch) (dC : Nat → ClassId) (dI : Nat → Nat → Nat) (h0 tp nw dr rd sc sk fl ps sh nm nb : Nat) (sz : Nat) (p0 : Int32) (p1 : Int32) (p2 : Int32) : Met l yX6_first (.code yX6_first cX6_first 6 (some .int) :: pw) ({ frames := 2, cells := 0, slots := 0, locals := 43 }) (pc (dC, dI) [.ref h0, .int p0, .int p1, .int p2] sz [(h0, .inr (6, [.ref tp, .int 0, .ref nw, .ref dr, .ref rd, .ref sc, .ref sk, .ref fl, .ref ps, .int 0, .int 0, .ref sh])), (nw, .inr (1, [.ref nm, .ref nb, .int 0, .int 0, .int 0]))] []) (va_Qi (fun (r : Int32) (_ : Unit) => r = (-1)) (fun _ _ => True) (fun _ => False)) 0 0 (fun _ => False) := by
  refine Met.ofW (cc := cX6_first) (maxL := 6) (ret := (some .int)) (by decide +kernel) rfl ?_
  intro p e s m args below meth c s₁ B hml hv
  obtain ⟨rfl, hsz, hP, hK, hD0, hN⟩ := hv
  have hx := B.exec
  have hb := B.bytes
  have hr := B.returns
  have hts := fun w (h : w ∈ pw) => atoms_spec (ws := Cond.code yX6_first cX6_first 6 (some .int) :: pw) B.pre w (List.mem_cons_of_mem _ h)
  have hown : s.vm.findClass RX6 = some m.cls := findClass_of_methodNamed B.named
  have hlocks := B.notSynchronized
  subst hsz
  have hD := hD0
  obtain ⟨H, hHe⟩ : ∃ H : Heap, H = s.heap := ⟨_, rfl⟩
  have hS : va_S (fun _ => False) s.heap H [] := by rw [hHe]; exact va_S.rf
  rw [← hHe] at hP
  have hl := lv_entry ([.ref h0, .int p0, .int p1, .int p2]) (n := 6) (Nat.le_of_ble_eq_true rfl)
  rw [lg_entry_eq]
  generalize (lg_sl ([.ref h0, .int p0, .int p1, .int p2]) ++ List.replicate (6 - (lg_sl ([.ref h0, .int p0, .int p1, .int p2])).length) Slot.unset).toArray = ls at hl ⊢
  have hl : lv_has ls 6 [(0, .ref h0), (1, .int p0), (2, .int p1), (3, .int p2)] := hl
  rw [← hHe]
  refine lv_aload_n hx hb dX6_first_0 rfl (lv_at hl 0 rfl) ?_
  refine lv_iload_n hx hb dX6_first_1 rfl (lv_at hl 1 rfl) ?_
  refine lv_iload_n hx hb dX6_first_2 rfl (lv_at hl 2 rfl) ?_
  have hPc := hP.sub (ws' := [(h0, .inr (6, [.ref tp, .int 0, .ref nw, .ref dr, .ref rd, .ref sc, .ref sk, .ref fl, .ref ps, .int 0, .int 0, .ref sh])), (nw, .inr (1, [.ref nm, .ref nb, .int 0, .int 0, .int 0]))]) [0, 1] rfl
  have hDc := hD.sub (ws' := [(h0, .inr (6, [.ref tp, .int 0, .ref nw, .ref dr, .ref rd, .ref sc, .ref sk, .ref fl, .ref ps, .int 0, .int 0, .ref sh])), (nw, .inr (1, [.ref nm, .ref nb, .int 0, .int 0, .int 0]))]) [0, 1] (by decide) rfl
  have hKc := hK.sub (tys' := []) [] rfl
  refine ro_i (va_runV (As := [.int p0, .int p1]) (rest := []) ⟨hx, hb, hml, hown, hts⟩ (c_X6_areTwoBodies l dC dI h0 tp nw dr rd sc sk fl ps sh nm nb H.size p0 p1 ) (cwV 2 hts (gV pq970 pq972 pq7 pq74 pq973) rfl rfl rfl (by decide +kernel) ⟨(Nat.le_of_ble_eq_true rfl), (Nat.le_of_ble_eq_true rfl)⟩) (pc_V hPc hDc hKc hN (va_recv hK hP (ci := 6) (q0 := 0) rfl rfl)) rfl rfl hl.1 rfl (lv_room (Nat.le_of_ble_eq_true rfl)) dX6_first_3 ⟨(Nat.le_of_ble_eq_true rfl), (Nat.le_of_ble_eq_true rfl)⟩) hS hP (fun r1 H locs hr1 hP hS => ?_)
  subst hr1
  refine lv_if_eq (tgt := 19) hx hb dX6_first_6 (by decide) (fun c2 => ?_) (fun c2 => absurd (by decide +kernel) c2)
  refine lv_iconst (v := (-1)) hx hb dX6_first_19 (by decide +kernel) ?_
  exact W.iret (v := (-1)) hx hb hr (fun t ht hW => ⟨⟨(-1), (), rfl, rfl, trivial⟩, hS.F ht⟩) hS.2.2 dX6_first_20

set_option maxHeartbeats 4000000 in
set_option maxRecDepth 100000 in
theorem c_X6_reach (l : Launch) (dC : Nat → ClassId) (dI : Nat → Nat → Nat) (h0 tp nw dr rd sc sk fl ps sh nm nb : Nat) (sz : Nat) (p0 : Int32) (p1 : Int32) (p2 : Int32) (p3 : Int32) : Met l yX6_reach (.code yX6_reach cX6_reach 5 (some .int) :: pw) ({ frames := 1, cells := 0, slots := 0, locals := 21 }) (pc (dC, dI) [.ref h0, .int p0, .int p1, .int p2, .int p3] sz [(h0, .inr (6, [.ref tp, .int 0, .ref nw, .ref dr, .ref rd, .ref sc, .ref sk, .ref fl, .ref ps, .int 0, .int 0, .ref sh])), (nw, .inr (1, [.ref nm, .ref nb, .int 0, .int 0, .int 0]))] []) (va_Qi (fun (r : Int32) (_ : Unit) => r = (-1)) (fun _ _ => True) (fun _ => False)) 0 0 (fun _ => False) := by
  refine Met.ofW (cc := cX6_reach) (maxL := 5) (ret := (some .int)) (by decide +kernel) rfl ?_
  intro p e s m args below meth c s₁ B hml hv
  obtain ⟨rfl, hsz, hP, hK, hD0, hN⟩ := hv
  have hx := B.exec
  have hb := B.bytes
  have hr := B.returns
  have hts := fun w (h : w ∈ pw) => atoms_spec (ws := Cond.code yX6_reach cX6_reach 5 (some .int) :: pw) B.pre w (List.mem_cons_of_mem _ h)
  have hown : s.vm.findClass RX6 = some m.cls := findClass_of_methodNamed B.named
  have hlocks := B.notSynchronized
  subst hsz
  have hD := hD0
  obtain ⟨H, hHe⟩ : ∃ H : Heap, H = s.heap := ⟨_, rfl⟩
  have hS : va_S (fun _ => False) s.heap H [] := by rw [hHe]; exact va_S.rf
  rw [← hHe] at hP
  have hl := lv_entry ([.ref h0, .int p0, .int p1, .int p2, .int p3]) (n := 5) (Nat.le_of_ble_eq_true rfl)
  rw [lg_entry_eq]
  generalize (lg_sl ([.ref h0, .int p0, .int p1, .int p2, .int p3]) ++ List.replicate (5 - (lg_sl ([.ref h0, .int p0, .int p1, .int p2, .int p3])).length) Slot.unset).toArray = ls at hl ⊢
  have hl : lv_has ls 5 [(0, .ref h0), (1, .int p0), (2, .int p1), (3, .int p2), (4, .int p3)] := hl
  rw [← hHe]
  refine lv_aload_n hx hb dX6_reach_0 rfl (lv_at hl 0 rfl) ?_
  refine lv_iload_n hx hb dX6_reach_1 rfl (lv_at hl 1 rfl) ?_
  have hPc := hP.sub (ws' := [(h0, .inr (6, [.ref tp, .int 0, .ref nw, .ref dr, .ref rd, .ref sc, .ref sk, .ref fl, .ref ps, .int 0, .int 0, .ref sh])), (nw, .inr (1, [.ref nm, .ref nb, .int 0, .int 0, .int 0]))]) [0, 1] rfl
  have hDc := hD.sub (ws' := [(h0, .inr (6, [.ref tp, .int 0, .ref nw, .ref dr, .ref rd, .ref sc, .ref sk, .ref fl, .ref ps, .int 0, .int 0, .ref sh])), (nw, .inr (1, [.ref nm, .ref nb, .int 0, .int 0, .int 0]))]) [0, 1] (by decide) rfl
  have hKc := hK.sub (tys' := []) [] rfl
  refine ro_i (va_runV (As := [.int p0]) (rest := []) ⟨hx, hb, hml, hown, hts⟩ (c_X6_isBody l dC dI h0 tp nw dr rd sc sk fl ps sh nm nb H.size p0 ) (cwV 1 hts (gV pq636 pq638 pq2 pq74 pq639) rfl rfl rfl (by decide +kernel) ⟨(Nat.le_of_ble_eq_true rfl), (Nat.le_of_ble_eq_true rfl)⟩) (pc_V hPc hDc hKc hN (va_recv hK hP (ci := 6) (q0 := 0) rfl rfl)) rfl rfl hl.1 rfl (lv_room (Nat.le_of_ble_eq_true rfl)) dX6_reach_2 ⟨(Nat.le_of_ble_eq_true rfl), (Nat.le_of_ble_eq_true rfl)⟩) hS hP (fun r1 H locs hr1 hP hS => ?_)
  subst hr1
  refine lv_if_eq (tgt := 37) hx hb dX6_reach_5 (by decide) (fun c2 => ?_) (fun c2 => absurd (by decide +kernel) c2)
  refine lv_iconst (v := (-1)) hx hb dX6_reach_37 (by decide +kernel) ?_
  exact W.iret (v := (-1)) hx hb hr (fun t ht hW => ⟨⟨(-1), (), rfl, rfl, trivial⟩, hS.F ht⟩) hS.2.2 dX6_reach_38

set_option maxHeartbeats 4000000 in
set_option maxRecDepth 100000 in
theorem c_X6_gap (l : Launch) (dC : Nat → ClassId) (dI : Nat → Nat → Nat) (h0 tp nw dr rd sc sk fl ps sh nm nb : Nat) (sz : Nat) (p0 : Int32) (p1 : Int32) (p2 : Int32) : Met l yX6_gap (.code yX6_gap cX6_gap 4 (some .int) :: pw) ({ frames := 2, cells := 0, slots := 0, locals := 43 }) (pc (dC, dI) [.ref h0, .int p0, .int p1, .int p2] sz [(h0, .inr (6, [.ref tp, .int 0, .ref nw, .ref dr, .ref rd, .ref sc, .ref sk, .ref fl, .ref ps, .int 0, .int 0, .ref sh])), (nw, .inr (1, [.ref nm, .ref nb, .int 0, .int 0, .int 0]))] []) (va_Qi (fun (r : Int32) (_ : Unit) => r = (-1)) (fun _ _ => True) (fun _ => False)) 0 0 (fun _ => False) := by
  refine Met.ofW (cc := cX6_gap) (maxL := 4) (ret := (some .int)) (by decide +kernel) rfl ?_
  intro p e s m args below meth c s₁ B hml hv
  obtain ⟨rfl, hsz, hP, hK, hD0, hN⟩ := hv
  have hx := B.exec
  have hb := B.bytes
  have hr := B.returns
  have hts := fun w (h : w ∈ pw) => atoms_spec (ws := Cond.code yX6_gap cX6_gap 4 (some .int) :: pw) B.pre w (List.mem_cons_of_mem _ h)
  have hown : s.vm.findClass RX6 = some m.cls := findClass_of_methodNamed B.named
  have hlocks := B.notSynchronized
  subst hsz
  have hD := hD0
  obtain ⟨H, hHe⟩ : ∃ H : Heap, H = s.heap := ⟨_, rfl⟩
  have hS : va_S (fun _ => False) s.heap H [] := by rw [hHe]; exact va_S.rf
  rw [← hHe] at hP
  have hl := lv_entry ([.ref h0, .int p0, .int p1, .int p2]) (n := 4) (Nat.le_of_ble_eq_true rfl)
  rw [lg_entry_eq]
  generalize (lg_sl ([.ref h0, .int p0, .int p1, .int p2]) ++ List.replicate (4 - (lg_sl ([.ref h0, .int p0, .int p1, .int p2])).length) Slot.unset).toArray = ls at hl ⊢
  have hl : lv_has ls 4 [(0, .ref h0), (1, .int p0), (2, .int p1), (3, .int p2)] := hl
  rw [← hHe]
  refine lv_aload_n hx hb dX6_gap_0 rfl (lv_at hl 0 rfl) ?_
  refine lv_iload_n hx hb dX6_gap_1 rfl (lv_at hl 1 rfl) ?_
  refine lv_iload_n hx hb dX6_gap_2 rfl (lv_at hl 2 rfl) ?_
  have hPc := hP.sub (ws' := [(h0, .inr (6, [.ref tp, .int 0, .ref nw, .ref dr, .ref rd, .ref sc, .ref sk, .ref fl, .ref ps, .int 0, .int 0, .ref sh])), (nw, .inr (1, [.ref nm, .ref nb, .int 0, .int 0, .int 0]))]) [0, 1] rfl
  have hDc := hD.sub (ws' := [(h0, .inr (6, [.ref tp, .int 0, .ref nw, .ref dr, .ref rd, .ref sc, .ref sk, .ref fl, .ref ps, .int 0, .int 0, .ref sh])), (nw, .inr (1, [.ref nm, .ref nb, .int 0, .int 0, .int 0]))]) [0, 1] (by decide) rfl
  have hKc := hK.sub (tys' := []) [] rfl
  refine ro_i (va_runV (As := [.int p0, .int p1]) (rest := []) ⟨hx, hb, hml, hown, hts⟩ (c_X6_areTwoBodies l dC dI h0 tp nw dr rd sc sk fl ps sh nm nb H.size p0 p1 ) (cwV 2 hts (gV pq970 pq972 pq7 pq74 pq973) rfl rfl rfl (by decide +kernel) ⟨(Nat.le_of_ble_eq_true rfl), (Nat.le_of_ble_eq_true rfl)⟩) (pc_V hPc hDc hKc hN (va_recv hK hP (ci := 6) (q0 := 0) rfl rfl)) rfl rfl hl.1 rfl (lv_room (Nat.le_of_ble_eq_true rfl)) dX6_gap_3 ⟨(Nat.le_of_ble_eq_true rfl), (Nat.le_of_ble_eq_true rfl)⟩) hS hP (fun r1 H locs hr1 hP hS => ?_)
  subst hr1
  refine lv_if_ne (tgt := 11) hx hb dX6_gap_6 (by decide) (fun c2 => absurd (by decide +kernel) c2) (fun c2 => ?_)
  refine lv_iconst (v := (-1)) hx hb dX6_gap_9 (by decide +kernel) ?_
  exact W.iret (v := (-1)) hx hb hr (fun t ht hW => ⟨⟨(-1), (), rfl, rfl, trivial⟩, hS.F ht⟩) hS.2.2 dX6_gap_10

set_option maxHeartbeats 4000000 in
set_option maxRecDepth 100000 in
theorem c_X6_apart (l : Launch) (dC : Nat → ClassId) (dI : Nat → Nat → Nat) (h0 tp nw dr rd sc sk fl ps sh nm nb : Nat) (sz : Nat) (p0 : Int32) (p1 : Int32) (p2 : Int32) : Met l yX6_apart (.code yX6_apart cX6_apart 4 (some .int) :: pw) ({ frames := 2, cells := 0, slots := 0, locals := 43 }) (pc (dC, dI) [.ref h0, .int p0, .int p1, .int p2] sz [(h0, .inr (6, [.ref tp, .int 0, .ref nw, .ref dr, .ref rd, .ref sc, .ref sk, .ref fl, .ref ps, .int 0, .int 0, .ref sh])), (nw, .inr (1, [.ref nm, .ref nb, .int 0, .int 0, .int 0]))] []) (va_Qi (fun (r : Int32) (_ : Unit) => r = (-2000)) (fun _ _ => True) (fun _ => False)) 0 0 (fun _ => False) := by
  refine Met.ofW (cc := cX6_apart) (maxL := 4) (ret := (some .int)) (by decide +kernel) rfl ?_
  intro p e s m args below meth c s₁ B hml hv
  obtain ⟨rfl, hsz, hP, hK, hD0, hN⟩ := hv
  have hx := B.exec
  have hb := B.bytes
  have hr := B.returns
  have hts := fun w (h : w ∈ pw) => atoms_spec (ws := Cond.code yX6_apart cX6_apart 4 (some .int) :: pw) B.pre w (List.mem_cons_of_mem _ h)
  have hown : s.vm.findClass RX6 = some m.cls := findClass_of_methodNamed B.named
  have hlocks := B.notSynchronized
  subst hsz
  have hD := hD0
  obtain ⟨H, hHe⟩ : ∃ H : Heap, H = s.heap := ⟨_, rfl⟩
  have hS : va_S (fun _ => False) s.heap H [] := by rw [hHe]; exact va_S.rf
  rw [← hHe] at hP
  have hl := lv_entry ([.ref h0, .int p0, .int p1, .int p2]) (n := 4) (Nat.le_of_ble_eq_true rfl)
  rw [lg_entry_eq]
  generalize (lg_sl ([.ref h0, .int p0, .int p1, .int p2]) ++ List.replicate (4 - (lg_sl ([.ref h0, .int p0, .int p1, .int p2])).length) Slot.unset).toArray = ls at hl ⊢
  have hl : lv_has ls 4 [(0, .ref h0), (1, .int p0), (2, .int p1), (3, .int p2)] := hl
  rw [← hHe]
  refine lv_aload_n hx hb dX6_apart_0 rfl (lv_at hl 0 rfl) ?_
  refine lv_iload_n hx hb dX6_apart_1 rfl (lv_at hl 1 rfl) ?_
  refine lv_iload_n hx hb dX6_apart_2 rfl (lv_at hl 2 rfl) ?_
  have hPc := hP.sub (ws' := [(h0, .inr (6, [.ref tp, .int 0, .ref nw, .ref dr, .ref rd, .ref sc, .ref sk, .ref fl, .ref ps, .int 0, .int 0, .ref sh])), (nw, .inr (1, [.ref nm, .ref nb, .int 0, .int 0, .int 0]))]) [0, 1] rfl
  have hDc := hD.sub (ws' := [(h0, .inr (6, [.ref tp, .int 0, .ref nw, .ref dr, .ref rd, .ref sc, .ref sk, .ref fl, .ref ps, .int 0, .int 0, .ref sh])), (nw, .inr (1, [.ref nm, .ref nb, .int 0, .int 0, .int 0]))]) [0, 1] (by decide) rfl
  have hKc := hK.sub (tys' := []) [] rfl
  refine ro_i (va_runV (As := [.int p0, .int p1]) (rest := []) ⟨hx, hb, hml, hown, hts⟩ (c_X6_areTwoBodies l dC dI h0 tp nw dr rd sc sk fl ps sh nm nb H.size p0 p1 ) (cwV 2 hts (gV pq970 pq972 pq7 pq74 pq973) rfl rfl rfl (by decide +kernel) ⟨(Nat.le_of_ble_eq_true rfl), (Nat.le_of_ble_eq_true rfl)⟩) (pc_V hPc hDc hKc hN (va_recv hK hP (ci := 6) (q0 := 0) rfl rfl)) rfl rfl hl.1 rfl (lv_room (Nat.le_of_ble_eq_true rfl)) dX6_apart_3 ⟨(Nat.le_of_ble_eq_true rfl), (Nat.le_of_ble_eq_true rfl)⟩) hS hP (fun r1 H locs hr1 hP hS => ?_)
  subst hr1
  refine lv_if_eq (tgt := 17) hx hb dX6_apart_6 (by decide) (fun c2 => ?_) (fun c2 => absurd (by decide +kernel) c2)
  refine lv_sipush (v := (-2000)) hx hb dX6_apart_17 (by decide +kernel) ?_
  exact W.iret (v := (-2000)) hx hb hr (fun t ht hW => ⟨⟨(-2000), (), rfl, rfl, trivial⟩, hS.F ht⟩) hS.2.2 dX6_apart_20

set_option maxHeartbeats 4000000 in
set_option maxRecDepth 100000 in
theorem c_X6_best (l : Launch) (dC : Nat → ClassId) (dI : Nat → Nat → Nat) (h0 tp nw dr rd sc sk fl ps sh nm nb : Nat) (sz : Nat) (p0 : Int32) (p1 : Int32) (p2 : Int32) : Met l yX6_best (.code yX6_best cX6_best 4 (some .int) :: pw) ({ frames := 2, cells := 0, slots := 0, locals := 43 }) (pc (dC, dI) [.ref h0, .int p0, .int p1, .int p2] sz [(h0, .inr (6, [.ref tp, .int 0, .ref nw, .ref dr, .ref rd, .ref sc, .ref sk, .ref fl, .ref ps, .int 0, .int 0, .ref sh])), (nw, .inr (1, [.ref nm, .ref nb, .int 0, .int 0, .int 0]))] []) (va_Qi (fun (r : Int32) (_ : Unit) => r = (-2000)) (fun _ _ => True) (fun _ => False)) 0 0 (fun _ => False) := by
  refine Met.ofW (cc := cX6_best) (maxL := 4) (ret := (some .int)) (by decide +kernel) rfl ?_
  intro p e s m args below meth c s₁ B hml hv
  obtain ⟨rfl, hsz, hP, hK, hD0, hN⟩ := hv
  have hx := B.exec
  have hb := B.bytes
  have hr := B.returns
  have hts := fun w (h : w ∈ pw) => atoms_spec (ws := Cond.code yX6_best cX6_best 4 (some .int) :: pw) B.pre w (List.mem_cons_of_mem _ h)
  have hown : s.vm.findClass RX6 = some m.cls := findClass_of_methodNamed B.named
  have hlocks := B.notSynchronized
  subst hsz
  have hD := hD0
  obtain ⟨H, hHe⟩ : ∃ H : Heap, H = s.heap := ⟨_, rfl⟩
  have hS : va_S (fun _ => False) s.heap H [] := by rw [hHe]; exact va_S.rf
  rw [← hHe] at hP
  have hl := lv_entry ([.ref h0, .int p0, .int p1, .int p2]) (n := 4) (Nat.le_of_ble_eq_true rfl)
  rw [lg_entry_eq]
  generalize (lg_sl ([.ref h0, .int p0, .int p1, .int p2]) ++ List.replicate (4 - (lg_sl ([.ref h0, .int p0, .int p1, .int p2])).length) Slot.unset).toArray = ls at hl ⊢
  have hl : lv_has ls 4 [(0, .ref h0), (1, .int p0), (2, .int p1), (3, .int p2)] := hl
  rw [← hHe]
  refine lv_aload_n hx hb dX6_best_0 rfl (lv_at hl 0 rfl) ?_
  refine lv_iload_n hx hb dX6_best_1 rfl (lv_at hl 1 rfl) ?_
  refine lv_iload_n hx hb dX6_best_2 rfl (lv_at hl 2 rfl) ?_
  have hPc := hP.sub (ws' := [(h0, .inr (6, [.ref tp, .int 0, .ref nw, .ref dr, .ref rd, .ref sc, .ref sk, .ref fl, .ref ps, .int 0, .int 0, .ref sh])), (nw, .inr (1, [.ref nm, .ref nb, .int 0, .int 0, .int 0]))]) [0, 1] rfl
  have hDc := hD.sub (ws' := [(h0, .inr (6, [.ref tp, .int 0, .ref nw, .ref dr, .ref rd, .ref sc, .ref sk, .ref fl, .ref ps, .int 0, .int 0, .ref sh])), (nw, .inr (1, [.ref nm, .ref nb, .int 0, .int 0, .int 0]))]) [0, 1] (by decide) rfl
  have hKc := hK.sub (tys' := []) [] rfl
  refine ro_i (va_runV (As := [.int p0, .int p1]) (rest := []) ⟨hx, hb, hml, hown, hts⟩ (c_X6_areTwoBodies l dC dI h0 tp nw dr rd sc sk fl ps sh nm nb H.size p0 p1 ) (cwV 2 hts (gV pq970 pq972 pq7 pq74 pq973) rfl rfl rfl (by decide +kernel) ⟨(Nat.le_of_ble_eq_true rfl), (Nat.le_of_ble_eq_true rfl)⟩) (pc_V hPc hDc hKc hN (va_recv hK hP (ci := 6) (q0 := 0) rfl rfl)) rfl rfl hl.1 rfl (lv_room (Nat.le_of_ble_eq_true rfl)) dX6_best_3 ⟨(Nat.le_of_ble_eq_true rfl), (Nat.le_of_ble_eq_true rfl)⟩) hS hP (fun r1 H locs hr1 hP hS => ?_)
  subst hr1
  refine lv_if_eq (tgt := 17) hx hb dX6_best_6 (by decide) (fun c2 => ?_) (fun c2 => absurd (by decide +kernel) c2)
  refine lv_sipush (v := (-2000)) hx hb dX6_best_17 (by decide +kernel) ?_
  exact W.iret (v := (-2000)) hx hb hr (fun t ht hW => ⟨⟨(-2000), (), rfl, rfl, trivial⟩, hS.F ht⟩) hS.2.2 dX6_best_20

set_option maxHeartbeats 4000000 in
set_option maxRecDepth 100000 in
theorem c_X6_slope (l : Launch) (dC : Nat → ClassId) (dI : Nat → Nat → Nat) (h0 tp nw dr rd sc sk fl ps sh nm nb : Nat) (sz : Nat) (p0 : Int32) (p1 : Int32) (p2 : Int32) : Met l yX6_slope (.code yX6_slope cX6_slope 6 (some .int) :: pw) ({ frames := 2, cells := 0, slots := 0, locals := 43 }) (pc (dC, dI) [.ref h0, .int p0, .int p1, .int p2] sz [(h0, .inr (6, [.ref tp, .int 0, .ref nw, .ref dr, .ref rd, .ref sc, .ref sk, .ref fl, .ref ps, .int 0, .int 0, .ref sh])), (nw, .inr (1, [.ref nm, .ref nb, .int 0, .int 0, .int 0]))] []) (va_Qi (fun (r : Int32) (_ : Unit) => r = (-2000000)) (fun _ _ => True) (fun _ => False)) 0 0 (fun _ => False) := by
  refine Met.ofW (cc := cX6_slope) (maxL := 6) (ret := (some .int)) (by decide +kernel) rfl ?_
  intro p e s m args below meth c s₁ B hml hv
  obtain ⟨rfl, hsz, hP, hK, hD0, hN⟩ := hv
  have hx := B.exec
  have hb := B.bytes
  have hr := B.returns
  have hts := fun w (h : w ∈ pw) => atoms_spec (ws := Cond.code yX6_slope cX6_slope 6 (some .int) :: pw) B.pre w (List.mem_cons_of_mem _ h)
  have hown : s.vm.findClass RX6 = some m.cls := findClass_of_methodNamed B.named
  have hlocks := B.notSynchronized
  subst hsz
  have hD := hD0
  obtain ⟨H, hHe⟩ : ∃ H : Heap, H = s.heap := ⟨_, rfl⟩
  have hS : va_S (fun _ => False) s.heap H [] := by rw [hHe]; exact va_S.rf
  rw [← hHe] at hP
  have hl := lv_entry ([.ref h0, .int p0, .int p1, .int p2]) (n := 6) (Nat.le_of_ble_eq_true rfl)
  rw [lg_entry_eq]
  generalize (lg_sl ([.ref h0, .int p0, .int p1, .int p2]) ++ List.replicate (6 - (lg_sl ([.ref h0, .int p0, .int p1, .int p2])).length) Slot.unset).toArray = ls at hl ⊢
  have hl : lv_has ls 6 [(0, .ref h0), (1, .int p0), (2, .int p1), (3, .int p2)] := hl
  rw [← hHe]
  refine lv_aload_n hx hb dX6_slope_0 rfl (lv_at hl 0 rfl) ?_
  refine lv_iload_n hx hb dX6_slope_1 rfl (lv_at hl 1 rfl) ?_
  refine lv_iload_n hx hb dX6_slope_2 rfl (lv_at hl 2 rfl) ?_
  have hPc := hP.sub (ws' := [(h0, .inr (6, [.ref tp, .int 0, .ref nw, .ref dr, .ref rd, .ref sc, .ref sk, .ref fl, .ref ps, .int 0, .int 0, .ref sh])), (nw, .inr (1, [.ref nm, .ref nb, .int 0, .int 0, .int 0]))]) [0, 1] rfl
  have hDc := hD.sub (ws' := [(h0, .inr (6, [.ref tp, .int 0, .ref nw, .ref dr, .ref rd, .ref sc, .ref sk, .ref fl, .ref ps, .int 0, .int 0, .ref sh])), (nw, .inr (1, [.ref nm, .ref nb, .int 0, .int 0, .int 0]))]) [0, 1] (by decide) rfl
  have hKc := hK.sub (tys' := []) [] rfl
  refine ro_i (va_runV (As := [.int p0, .int p1]) (rest := []) ⟨hx, hb, hml, hown, hts⟩ (c_X6_areTwoBodies l dC dI h0 tp nw dr rd sc sk fl ps sh nm nb H.size p0 p1 ) (cwV 2 hts (gV pq970 pq972 pq7 pq74 pq973) rfl rfl rfl (by decide +kernel) ⟨(Nat.le_of_ble_eq_true rfl), (Nat.le_of_ble_eq_true rfl)⟩) (pc_V hPc hDc hKc hN (va_recv hK hP (ci := 6) (q0 := 0) rfl rfl)) rfl rfl hl.1 rfl (lv_room (Nat.le_of_ble_eq_true rfl)) dX6_slope_3 ⟨(Nat.le_of_ble_eq_true rfl), (Nat.le_of_ble_eq_true rfl)⟩) hS hP (fun r1 H locs hr1 hP hS => ?_)
  subst hr1
  refine lv_if_eq (tgt := 17) hx hb dX6_slope_6 (by decide) (fun c2 => ?_) (fun c2 => absurd (by decide +kernel) c2)
  refine lv_ldcw hx hb hown (hts _ pq1068) dX6_slope_17 ?_
  exact W.iret (v := (-2000000)) hx hb hr (fun t ht hW => ⟨⟨(-2000000), (), rfl, rfl, trivial⟩, hS.F ht⟩) hS.2.2 dX6_slope_20

set_option maxHeartbeats 4000000 in
set_option maxRecDepth 100000 in
theorem c_X6_seen (l : Launch) (dC : Nat → ClassId) (dI : Nat → Nat → Nat) (h0 tp nw dr rd sc sk fl ps sh nm nb : Nat) (sz : Nat) (p0 : Int32) (p1 : Int32) : Met l yX6_seen (.code yX6_seen cX6_seen 10 (some .int) :: pw) ({ frames := 2, cells := 0, slots := 0, locals := 43 }) (pc (dC, dI) [.ref h0, .int p0, .int p1] sz [(h0, .inr (6, [.ref tp, .int 0, .ref nw, .ref dr, .ref rd, .ref sc, .ref sk, .ref fl, .ref ps, .int 0, .int 0, .ref sh])), (nw, .inr (1, [.ref nm, .ref nb, .int 0, .int 0, .int 0]))] []) (va_Qi (fun (r : Int32) (_ : Unit) => r = (-1)) (fun _ _ => True) (fun _ => False)) 0 0 (fun _ => False) := by
  refine Met.ofW (cc := cX6_seen) (maxL := 10) (ret := (some .int)) (by decide +kernel) rfl ?_
  intro p e s m args below meth c s₁ B hml hv
  obtain ⟨rfl, hsz, hP, hK, hD0, hN⟩ := hv
  have hx := B.exec
  have hb := B.bytes
  have hr := B.returns
  have hts := fun w (h : w ∈ pw) => atoms_spec (ws := Cond.code yX6_seen cX6_seen 10 (some .int) :: pw) B.pre w (List.mem_cons_of_mem _ h)
  have hown : s.vm.findClass RX6 = some m.cls := findClass_of_methodNamed B.named
  have hlocks := B.notSynchronized
  subst hsz
  have hD := hD0
  obtain ⟨H, hHe⟩ : ∃ H : Heap, H = s.heap := ⟨_, rfl⟩
  have hS : va_S (fun _ => False) s.heap H [] := by rw [hHe]; exact va_S.rf
  rw [← hHe] at hP
  have hl := lv_entry ([.ref h0, .int p0, .int p1]) (n := 10) (Nat.le_of_ble_eq_true rfl)
  rw [lg_entry_eq]
  generalize (lg_sl ([.ref h0, .int p0, .int p1]) ++ List.replicate (10 - (lg_sl ([.ref h0, .int p0, .int p1])).length) Slot.unset).toArray = ls at hl ⊢
  have hl : lv_has ls 10 [(0, .ref h0), (1, .int p0), (2, .int p1)] := hl
  rw [← hHe]
  refine lv_aload_n hx hb dX6_seen_0 rfl (lv_at hl 0 rfl) ?_
  refine lv_iload_n hx hb dX6_seen_1 rfl (lv_at hl 1 rfl) ?_
  refine lv_iload_n hx hb dX6_seen_2 rfl (lv_at hl 2 rfl) ?_
  have hPc := hP.sub (ws' := [(h0, .inr (6, [.ref tp, .int 0, .ref nw, .ref dr, .ref rd, .ref sc, .ref sk, .ref fl, .ref ps, .int 0, .int 0, .ref sh])), (nw, .inr (1, [.ref nm, .ref nb, .int 0, .int 0, .int 0]))]) [0, 1] rfl
  have hDc := hD.sub (ws' := [(h0, .inr (6, [.ref tp, .int 0, .ref nw, .ref dr, .ref rd, .ref sc, .ref sk, .ref fl, .ref ps, .int 0, .int 0, .ref sh])), (nw, .inr (1, [.ref nm, .ref nb, .int 0, .int 0, .int 0]))]) [0, 1] (by decide) rfl
  have hKc := hK.sub (tys' := []) [] rfl
  refine ro_i (va_runV (As := [.int p0, .int p1]) (rest := []) ⟨hx, hb, hml, hown, hts⟩ (c_X6_areTwoBodies l dC dI h0 tp nw dr rd sc sk fl ps sh nm nb H.size p0 p1 ) (cwV 2 hts (gV pq970 pq972 pq7 pq74 pq973) rfl rfl rfl (by decide +kernel) ⟨(Nat.le_of_ble_eq_true rfl), (Nat.le_of_ble_eq_true rfl)⟩) (pc_V hPc hDc hKc hN (va_recv hK hP (ci := 6) (q0 := 0) rfl rfl)) rfl rfl hl.1 rfl (lv_room (Nat.le_of_ble_eq_true rfl)) dX6_seen_3 ⟨(Nat.le_of_ble_eq_true rfl), (Nat.le_of_ble_eq_true rfl)⟩) hS hP (fun r1 H locs hr1 hP hS => ?_)
  subst hr1
  refine lv_if_eq (tgt := 31) hx hb dX6_seen_6 (by decide) (fun c2 => ?_) (fun c2 => absurd (by decide +kernel) c2)
  refine lv_iconst (v := (-1)) hx hb dX6_seen_31 (by decide +kernel) ?_
  exact W.iret (v := (-1)) hx hb hr (fun t ht hW => ⟨⟨(-1), (), rfl, rfl, trivial⟩, hS.F ht⟩) hS.2.2 dX6_seen_32

set_option maxHeartbeats 4000000 in
set_option maxRecDepth 100000 in
theorem c_X6_island (l : Launch) (dC : Nat → ClassId) (dI : Nat → Nat → Nat) (h0 tp nw dr rd sc sk fl ps sh nm nb : Nat) (sz : Nat) (p0 : Int32) (p1 : Int32) (p2 : Int32) : Met l yX6_island (.code yX6_island cX6_island 5 (some .int) :: pw) ({ frames := 1, cells := 0, slots := 0, locals := 21 }) (pc (dC, dI) [.ref h0, .int p0, .int p1, .int p2] sz [(h0, .inr (6, [.ref tp, .int 0, .ref nw, .ref dr, .ref rd, .ref sc, .ref sk, .ref fl, .ref ps, .int 0, .int 0, .ref sh])), (nw, .inr (1, [.ref nm, .ref nb, .int 0, .int 0, .int 0]))] []) (va_Qi (fun (r : Int32) (_ : Unit) => r = (-1)) (fun _ _ => True) (fun _ => False)) 0 0 (fun _ => False) := by
  refine Met.ofW (cc := cX6_island) (maxL := 5) (ret := (some .int)) (by decide +kernel) rfl ?_
  intro p e s m args below meth c s₁ B hml hv
  obtain ⟨rfl, hsz, hP, hK, hD0, hN⟩ := hv
  have hx := B.exec
  have hb := B.bytes
  have hr := B.returns
  have hts := fun w (h : w ∈ pw) => atoms_spec (ws := Cond.code yX6_island cX6_island 5 (some .int) :: pw) B.pre w (List.mem_cons_of_mem _ h)
  have hown : s.vm.findClass RX6 = some m.cls := findClass_of_methodNamed B.named
  have hlocks := B.notSynchronized
  subst hsz
  have hD := hD0
  obtain ⟨H, hHe⟩ : ∃ H : Heap, H = s.heap := ⟨_, rfl⟩
  have hS : va_S (fun _ => False) s.heap H [] := by rw [hHe]; exact va_S.rf
  rw [← hHe] at hP
  have hl := lv_entry ([.ref h0, .int p0, .int p1, .int p2]) (n := 5) (Nat.le_of_ble_eq_true rfl)
  rw [lg_entry_eq]
  generalize (lg_sl ([.ref h0, .int p0, .int p1, .int p2]) ++ List.replicate (5 - (lg_sl ([.ref h0, .int p0, .int p1, .int p2])).length) Slot.unset).toArray = ls at hl ⊢
  have hl : lv_has ls 5 [(0, .ref h0), (1, .int p0), (2, .int p1), (3, .int p2)] := hl
  rw [← hHe]
  refine lv_aload_n hx hb dX6_island_0 rfl (lv_at hl 0 rfl) ?_
  refine lv_iload_n hx hb dX6_island_1 rfl (lv_at hl 1 rfl) ?_
  have hPc := hP.sub (ws' := [(h0, .inr (6, [.ref tp, .int 0, .ref nw, .ref dr, .ref rd, .ref sc, .ref sk, .ref fl, .ref ps, .int 0, .int 0, .ref sh])), (nw, .inr (1, [.ref nm, .ref nb, .int 0, .int 0, .int 0]))]) [0, 1] rfl
  have hDc := hD.sub (ws' := [(h0, .inr (6, [.ref tp, .int 0, .ref nw, .ref dr, .ref rd, .ref sc, .ref sk, .ref fl, .ref ps, .int 0, .int 0, .ref sh])), (nw, .inr (1, [.ref nm, .ref nb, .int 0, .int 0, .int 0]))]) [0, 1] (by decide) rfl
  have hKc := hK.sub (tys' := []) [] rfl
  refine ro_i (va_runV (As := [.int p0]) (rest := []) ⟨hx, hb, hml, hown, hts⟩ (c_X6_isMask l dC dI h0 tp nw dr rd sc sk fl ps sh nm nb H.size p0 ) (cwV 1 hts (gV pq666 pq668 pq4 pq74 pq669) rfl rfl rfl (by decide +kernel) ⟨(Nat.le_of_ble_eq_true rfl), (Nat.le_of_ble_eq_true rfl)⟩) (pc_V hPc hDc hKc hN (va_recv hK hP (ci := 6) (q0 := 0) rfl rfl)) rfl rfl hl.1 rfl (lv_room (Nat.le_of_ble_eq_true rfl)) dX6_island_2 ⟨(Nat.le_of_ble_eq_true rfl), (Nat.le_of_ble_eq_true rfl)⟩) hS hP (fun r1 H locs hr1 hP hS => ?_)
  subst hr1
  refine lv_if_eq (tgt := 21) hx hb dX6_island_5 (by decide) (fun c2 => ?_) (fun c2 => absurd (by decide +kernel) c2)
  refine lv_iconst (v := (-1)) hx hb dX6_island_21 (by decide +kernel) ?_
  exact W.iret (v := (-1)) hx hb hr (fun t ht hW => ⟨⟨(-1), (), rfl, rfl, trivial⟩, hS.F ht⟩) hS.2.2 dX6_island_22

set_option maxHeartbeats 4000000 in
set_option maxRecDepth 100000 in
theorem c_X6_shifts (l : Launch) (dC : Nat → ClassId) (dI : Nat → Nat → Nat) (h0 tp nw dr rd sc sk fl ps sh nm nb : Nat) (sz : Nat) (p0 : Int32) (p1 : Int32) : Met l yX6_shifts (.code yX6_shifts cX6_shifts 8 (some .int) :: pw) ({ frames := 1, cells := 0, slots := 0, locals := 21 }) (pc (dC, dI) [.ref h0, .int p0, .int p1] sz [(h0, .inr (6, [.ref tp, .int 0, .ref nw, .ref dr, .ref rd, .ref sc, .ref sk, .ref fl, .ref ps, .int 0, .int 0, .ref sh])), (nw, .inr (1, [.ref nm, .ref nb, .int 0, .int 0, .int 0]))] []) (va_Qi (fun (r : Int32) (_ : Unit) => r = (-1)) (fun _ _ => True) (fun _ => False)) 0 0 (fun _ => False) := by
  refine Met.ofW (cc := cX6_shifts) (maxL := 8) (ret := (some .int)) (by decide +kernel) rfl ?_
  intro p e s m args below meth c s₁ B hml hv
  obtain ⟨rfl, hsz, hP, hK, hD0, hN⟩ := hv
  have hx := B.exec
  have hb := B.bytes
  have hr := B.returns
  have hts := fun w (h : w ∈ pw) => atoms_spec (ws := Cond.code yX6_shifts cX6_shifts 8 (some .int) :: pw) B.pre w (List.mem_cons_of_mem _ h)
  have hown : s.vm.findClass RX6 = some m.cls := findClass_of_methodNamed B.named
  have hlocks := B.notSynchronized
  subst hsz
  have hD := hD0
  obtain ⟨H, hHe⟩ : ∃ H : Heap, H = s.heap := ⟨_, rfl⟩
  have hS : va_S (fun _ => False) s.heap H [] := by rw [hHe]; exact va_S.rf
  rw [← hHe] at hP
  have hl := lv_entry ([.ref h0, .int p0, .int p1]) (n := 8) (Nat.le_of_ble_eq_true rfl)
  rw [lg_entry_eq]
  generalize (lg_sl ([.ref h0, .int p0, .int p1]) ++ List.replicate (8 - (lg_sl ([.ref h0, .int p0, .int p1])).length) Slot.unset).toArray = ls at hl ⊢
  have hl : lv_has ls 8 [(0, .ref h0), (1, .int p0), (2, .int p1)] := hl
  rw [← hHe]
  refine lv_aload_n hx hb dX6_shifts_0 rfl (lv_at hl 0 rfl) ?_
  refine lv_iload_n hx hb dX6_shifts_1 rfl (lv_at hl 1 rfl) ?_
  have hPc := hP.sub (ws' := [(h0, .inr (6, [.ref tp, .int 0, .ref nw, .ref dr, .ref rd, .ref sc, .ref sk, .ref fl, .ref ps, .int 0, .int 0, .ref sh])), (nw, .inr (1, [.ref nm, .ref nb, .int 0, .int 0, .int 0]))]) [0, 1] rfl
  have hDc := hD.sub (ws' := [(h0, .inr (6, [.ref tp, .int 0, .ref nw, .ref dr, .ref rd, .ref sc, .ref sk, .ref fl, .ref ps, .int 0, .int 0, .ref sh])), (nw, .inr (1, [.ref nm, .ref nb, .int 0, .int 0, .int 0]))]) [0, 1] (by decide) rfl
  have hKc := hK.sub (tys' := []) [] rfl
  refine ro_i (va_runV (As := [.int p0]) (rest := []) ⟨hx, hb, hml, hown, hts⟩ (c_X6_isMask l dC dI h0 tp nw dr rd sc sk fl ps sh nm nb H.size p0 ) (cwV 1 hts (gV pq666 pq668 pq4 pq74 pq669) rfl rfl rfl (by decide +kernel) ⟨(Nat.le_of_ble_eq_true rfl), (Nat.le_of_ble_eq_true rfl)⟩) (pc_V hPc hDc hKc hN (va_recv hK hP (ci := 6) (q0 := 0) rfl rfl)) rfl rfl hl.1 rfl (lv_room (Nat.le_of_ble_eq_true rfl)) dX6_shifts_2 ⟨(Nat.le_of_ble_eq_true rfl), (Nat.le_of_ble_eq_true rfl)⟩) hS hP (fun r1 H locs hr1 hP hS => ?_)
  subst hr1
  refine lv_if_eq (tgt := 16) hx hb dX6_shifts_5 (by decide) (fun c2 => ?_) (fun c2 => absurd (by decide +kernel) c2)
  refine lv_iconst (v := (-1)) hx hb dX6_shifts_16 (by decide +kernel) ?_
  exact W.iret (v := (-1)) hx hb hr (fun t ht hW => ⟨⟨(-1), (), rfl, rfl, trivial⟩, hS.F ht⟩) hS.2.2 dX6_shifts_17

set_option maxHeartbeats 4000000 in
set_option maxRecDepth 100000 in
theorem c_X6_like (l : Launch) (dC : Nat → ClassId) (dI : Nat → Nat → Nat) (h0 tp nw dr rd sc sk fl ps sh nm nb : Nat) (sz : Nat) (p0 : Int32) : Met l yX6_like (.code yX6_like cX6_like 4 (some .int) :: pw) ({ frames := 1, cells := 0, slots := 0, locals := 21 }) (pc (dC, dI) [.ref h0, .int p0] sz [(h0, .inr (6, [.ref tp, .int 0, .ref nw, .ref dr, .ref rd, .ref sc, .ref sk, .ref fl, .ref ps, .int 0, .int 0, .ref sh])), (nw, .inr (1, [.ref nm, .ref nb, .int 0, .int 0, .int 0]))] []) (va_Qi (fun (r : Int32) (_ : Unit) => r = (-1)) (fun _ _ => True) (fun _ => False)) 0 0 (fun _ => False) := by
  refine Met.ofW (cc := cX6_like) (maxL := 4) (ret := (some .int)) (by decide +kernel) rfl ?_
  intro p e s m args below meth c s₁ B hml hv
  obtain ⟨rfl, hsz, hP, hK, hD0, hN⟩ := hv
  have hx := B.exec
  have hb := B.bytes
  have hr := B.returns
  have hts := fun w (h : w ∈ pw) => atoms_spec (ws := Cond.code yX6_like cX6_like 4 (some .int) :: pw) B.pre w (List.mem_cons_of_mem _ h)
  have hown : s.vm.findClass RX6 = some m.cls := findClass_of_methodNamed B.named
  have hlocks := B.notSynchronized
  subst hsz
  have hD := hD0
  obtain ⟨H, hHe⟩ : ∃ H : Heap, H = s.heap := ⟨_, rfl⟩
  have hS : va_S (fun _ => False) s.heap H [] := by rw [hHe]; exact va_S.rf
  rw [← hHe] at hP
  have hl := lv_entry ([.ref h0, .int p0]) (n := 4) (Nat.le_of_ble_eq_true rfl)
  rw [lg_entry_eq]
  generalize (lg_sl ([.ref h0, .int p0]) ++ List.replicate (4 - (lg_sl ([.ref h0, .int p0])).length) Slot.unset).toArray = ls at hl ⊢
  have hl : lv_has ls 4 [(0, .ref h0), (1, .int p0)] := hl
  rw [← hHe]
  refine lv_aload_n hx hb dX6_like_0 rfl (lv_at hl 0 rfl) ?_
  refine lv_iload_n hx hb dX6_like_1 rfl (lv_at hl 1 rfl) ?_
  have hPc := hP.sub (ws' := [(h0, .inr (6, [.ref tp, .int 0, .ref nw, .ref dr, .ref rd, .ref sc, .ref sk, .ref fl, .ref ps, .int 0, .int 0, .ref sh])), (nw, .inr (1, [.ref nm, .ref nb, .int 0, .int 0, .int 0]))]) [0, 1] rfl
  have hDc := hD.sub (ws' := [(h0, .inr (6, [.ref tp, .int 0, .ref nw, .ref dr, .ref rd, .ref sc, .ref sk, .ref fl, .ref ps, .int 0, .int 0, .ref sh])), (nw, .inr (1, [.ref nm, .ref nb, .int 0, .int 0, .int 0]))]) [0, 1] (by decide) rfl
  have hKc := hK.sub (tys' := []) [] rfl
  refine ro_i (va_runV (As := [.int p0]) (rest := []) ⟨hx, hb, hml, hown, hts⟩ (c_X6_isMask l dC dI h0 tp nw dr rd sc sk fl ps sh nm nb H.size p0 ) (cwV 1 hts (gV pq666 pq668 pq4 pq74 pq669) rfl rfl rfl (by decide +kernel) ⟨(Nat.le_of_ble_eq_true rfl), (Nat.le_of_ble_eq_true rfl)⟩) (pc_V hPc hDc hKc hN (va_recv hK hP (ci := 6) (q0 := 0) rfl rfl)) rfl rfl hl.1 rfl (lv_room (Nat.le_of_ble_eq_true rfl)) dX6_like_2 ⟨(Nat.le_of_ble_eq_true rfl), (Nat.le_of_ble_eq_true rfl)⟩) hS hP (fun r1 H locs hr1 hP hS => ?_)
  subst hr1
  refine lv_if_ne (tgt := 10) hx hb dX6_like_5 (by decide) (fun c2 => absurd (by decide +kernel) c2) (fun c2 => ?_)
  refine lv_iconst (v := (-1)) hx hb dX6_like_8 (by decide +kernel) ?_
  exact W.iret (v := (-1)) hx hb hr (fun t ht hW => ⟨⟨(-1), (), rfl, rfl, trivial⟩, hS.F ht⟩) hS.2.2 dX6_like_9

set_option maxHeartbeats 4000000 in
set_option maxRecDepth 100000 in
theorem c_X6_letter (l : Launch) (dC : Nat → ClassId) (dI : Nat → Nat → Nat) (h0 tp nw dr rd sc sk fl ps sh nm nb : Nat) (sz : Nat) (p0 : Int32) (p1 : Int32) : Met l yX6_letter (.code yX6_letter cX6_letter 7 (some .int) :: pw) ({ frames := 1, cells := 0, slots := 0, locals := 21 }) (pc (dC, dI) [.ref h0, .int p0, .int p1] sz [(h0, .inr (6, [.ref tp, .int 0, .ref nw, .ref dr, .ref rd, .ref sc, .ref sk, .ref fl, .ref ps, .int 0, .int 0, .ref sh])), (nw, .inr (1, [.ref nm, .ref nb, .int 0, .int 0, .int 0]))] []) (va_Qi (fun (r : Int32) (_ : Unit) => r = (-1)) (fun _ _ => True) (fun _ => False)) 0 0 (fun _ => False) := by
  refine Met.ofW (cc := cX6_letter) (maxL := 7) (ret := (some .int)) (by decide +kernel) rfl ?_
  intro p e s m args below meth c s₁ B hml hv
  obtain ⟨rfl, hsz, hP, hK, hD0, hN⟩ := hv
  have hx := B.exec
  have hb := B.bytes
  have hr := B.returns
  have hts := fun w (h : w ∈ pw) => atoms_spec (ws := Cond.code yX6_letter cX6_letter 7 (some .int) :: pw) B.pre w (List.mem_cons_of_mem _ h)
  have hown : s.vm.findClass RX6 = some m.cls := findClass_of_methodNamed B.named
  have hlocks := B.notSynchronized
  subst hsz
  have hD := hD0
  obtain ⟨H, hHe⟩ : ∃ H : Heap, H = s.heap := ⟨_, rfl⟩
  have hS : va_S (fun _ => False) s.heap H [] := by rw [hHe]; exact va_S.rf
  rw [← hHe] at hP
  have hl := lv_entry ([.ref h0, .int p0, .int p1]) (n := 7) (Nat.le_of_ble_eq_true rfl)
  rw [lg_entry_eq]
  generalize (lg_sl ([.ref h0, .int p0, .int p1]) ++ List.replicate (7 - (lg_sl ([.ref h0, .int p0, .int p1])).length) Slot.unset).toArray = ls at hl ⊢
  have hl : lv_has ls 7 [(0, .ref h0), (1, .int p0), (2, .int p1)] := hl
  rw [← hHe]
  refine lv_aload_n hx hb dX6_letter_0 rfl (lv_at hl 0 rfl) ?_
  refine lv_iload_n hx hb dX6_letter_1 rfl (lv_at hl 1 rfl) ?_
  have hPc := hP.sub (ws' := [(h0, .inr (6, [.ref tp, .int 0, .ref nw, .ref dr, .ref rd, .ref sc, .ref sk, .ref fl, .ref ps, .int 0, .int 0, .ref sh])), (nw, .inr (1, [.ref nm, .ref nb, .int 0, .int 0, .int 0]))]) [0, 1] rfl
  have hDc := hD.sub (ws' := [(h0, .inr (6, [.ref tp, .int 0, .ref nw, .ref dr, .ref rd, .ref sc, .ref sk, .ref fl, .ref ps, .int 0, .int 0, .ref sh])), (nw, .inr (1, [.ref nm, .ref nb, .int 0, .int 0, .int 0]))]) [0, 1] (by decide) rfl
  have hKc := hK.sub (tys' := []) [] rfl
  refine ro_i (va_runV (As := [.int p0]) (rest := []) ⟨hx, hb, hml, hown, hts⟩ (c_X6_isMask l dC dI h0 tp nw dr rd sc sk fl ps sh nm nb H.size p0 ) (cwV 1 hts (gV pq666 pq668 pq4 pq74 pq669) rfl rfl rfl (by decide +kernel) ⟨(Nat.le_of_ble_eq_true rfl), (Nat.le_of_ble_eq_true rfl)⟩) (pc_V hPc hDc hKc hN (va_recv hK hP (ci := 6) (q0 := 0) rfl rfl)) rfl rfl hl.1 rfl (lv_room (Nat.le_of_ble_eq_true rfl)) dX6_letter_2 ⟨(Nat.le_of_ble_eq_true rfl), (Nat.le_of_ble_eq_true rfl)⟩) hS hP (fun r1 H locs hr1 hP hS => ?_)
  subst hr1
  refine lv_if_eq (tgt := 13) hx hb dX6_letter_5 (by decide) (fun c2 => ?_) (fun c2 => absurd (by decide +kernel) c2)
  refine lv_iconst (v := (-1)) hx hb dX6_letter_13 (by decide +kernel) ?_
  exact W.iret (v := (-1)) hx hb hr (fun t ht hW => ⟨⟨(-1), (), rfl, rfl, trivial⟩, hS.F ht⟩) hS.2.2 dX6_letter_14

set_option maxHeartbeats 4000000 in
set_option maxRecDepth 100000 in
theorem c_X6_dense (l : Launch) (dC : Nat → ClassId) (dI : Nat → Nat → Nat) (h0 tp nw dr rd sc sk fl ps sh nm nb : Nat) (sz : Nat) (p0 : Int32) (p1 : Int32) (p2 : Int32) (p3 : Int32) : Met l yX6_dense (.code yX6_dense cX6_dense 12 (some .int) :: pw) ({ frames := 1, cells := 0, slots := 0, locals := 21 }) (pc (dC, dI) [.ref h0, .int p0, .int p1, .int p2, .int p3] sz [(h0, .inr (6, [.ref tp, .int 0, .ref nw, .ref dr, .ref rd, .ref sc, .ref sk, .ref fl, .ref ps, .int 0, .int 0, .ref sh])), (nw, .inr (1, [.ref nm, .ref nb, .int 0, .int 0, .int 0]))] []) (va_Qi (fun (r : Int32) (_ : Unit) => r = (-1)) (fun _ _ => True) (fun _ => False)) 0 0 (fun _ => False) := by
  refine Met.ofW (cc := cX6_dense) (maxL := 12) (ret := (some .int)) (by decide +kernel) rfl ?_
  intro p e s m args below meth c s₁ B hml hv
  obtain ⟨rfl, hsz, hP, hK, hD0, hN⟩ := hv
  have hx := B.exec
  have hb := B.bytes
  have hr := B.returns
  have hts := fun w (h : w ∈ pw) => atoms_spec (ws := Cond.code yX6_dense cX6_dense 12 (some .int) :: pw) B.pre w (List.mem_cons_of_mem _ h)
  have hown : s.vm.findClass RX6 = some m.cls := findClass_of_methodNamed B.named
  have hlocks := B.notSynchronized
  subst hsz
  have hD := hD0
  obtain ⟨H, hHe⟩ : ∃ H : Heap, H = s.heap := ⟨_, rfl⟩
  have hS : va_S (fun _ => False) s.heap H [] := by rw [hHe]; exact va_S.rf
  rw [← hHe] at hP
  have hl := lv_entry ([.ref h0, .int p0, .int p1, .int p2, .int p3]) (n := 12) (Nat.le_of_ble_eq_true rfl)
  rw [lg_entry_eq]
  generalize (lg_sl ([.ref h0, .int p0, .int p1, .int p2, .int p3]) ++ List.replicate (12 - (lg_sl ([.ref h0, .int p0, .int p1, .int p2, .int p3])).length) Slot.unset).toArray = ls at hl ⊢
  have hl : lv_has ls 12 [(0, .ref h0), (1, .int p0), (2, .int p1), (3, .int p2), (4, .int p3)] := hl
  rw [← hHe]
  refine lv_aload_n hx hb dX6_dense_0 rfl (lv_at hl 0 rfl) ?_
  refine lv_iload_n hx hb dX6_dense_1 rfl (lv_at hl 1 rfl) ?_
  have hPc := hP.sub (ws' := [(h0, .inr (6, [.ref tp, .int 0, .ref nw, .ref dr, .ref rd, .ref sc, .ref sk, .ref fl, .ref ps, .int 0, .int 0, .ref sh])), (nw, .inr (1, [.ref nm, .ref nb, .int 0, .int 0, .int 0]))]) [0, 1] rfl
  have hDc := hD.sub (ws' := [(h0, .inr (6, [.ref tp, .int 0, .ref nw, .ref dr, .ref rd, .ref sc, .ref sk, .ref fl, .ref ps, .int 0, .int 0, .ref sh])), (nw, .inr (1, [.ref nm, .ref nb, .int 0, .int 0, .int 0]))]) [0, 1] (by decide) rfl
  have hKc := hK.sub (tys' := []) [] rfl
  refine ro_i (va_runV (As := [.int p0]) (rest := []) ⟨hx, hb, hml, hown, hts⟩ (c_X6_isMask l dC dI h0 tp nw dr rd sc sk fl ps sh nm nb H.size p0 ) (cwV 1 hts (gV pq666 pq668 pq4 pq74 pq669) rfl rfl rfl (by decide +kernel) ⟨(Nat.le_of_ble_eq_true rfl), (Nat.le_of_ble_eq_true rfl)⟩) (pc_V hPc hDc hKc hN (va_recv hK hP (ci := 6) (q0 := 0) rfl rfl)) rfl rfl hl.1 rfl (lv_room (Nat.le_of_ble_eq_true rfl)) dX6_dense_2 ⟨(Nat.le_of_ble_eq_true rfl), (Nat.le_of_ble_eq_true rfl)⟩) hS hP (fun r1 H locs hr1 hP hS => ?_)
  subst hr1
  refine lv_if_eq (tgt := 17) hx hb dX6_dense_5 (by decide) (fun c2 => ?_) (fun c2 => absurd (by decide +kernel) c2)
  refine lv_iconst (v := (-1)) hx hb dX6_dense_17 (by decide +kernel) ?_
  exact W.iret (v := (-1)) hx hb hr (fun t ht hW => ⟨⟨(-1), (), rfl, rfl, trivial⟩, hS.F ht⟩) hS.2.2 dX6_dense_18

set_option maxHeartbeats 4000000 in
set_option maxRecDepth 100000 in
theorem c_X6_dots (l : Launch) (dC : Nat → ClassId) (dI : Nat → Nat → Nat) (h0 tp nw dr rd sc sk fl ps sh nm nb : Nat) (sz : Nat) (p0 : Int32) (p1 : Int32) (p2 : Int32) : Met l yX6_dots (.code yX6_dots cX6_dots 5 (some .int) :: pw) ({ frames := 1, cells := 0, slots := 0, locals := 21 }) (pc (dC, dI) [.ref h0, .int p0, .int p1, .int p2] sz [(h0, .inr (6, [.ref tp, .int 0, .ref nw, .ref dr, .ref rd, .ref sc, .ref sk, .ref fl, .ref ps, .int 0, .int 0, .ref sh])), (nw, .inr (1, [.ref nm, .ref nb, .int 0, .int 0, .int 0]))] []) (va_Qi (fun (r : Int32) (_ : Unit) => r = (-1)) (fun _ _ => True) (fun _ => False)) 0 0 (fun _ => False) := by
  refine Met.ofW (cc := cX6_dots) (maxL := 5) (ret := (some .int)) (by decide +kernel) rfl ?_
  intro p e s m args below meth c s₁ B hml hv
  obtain ⟨rfl, hsz, hP, hK, hD0, hN⟩ := hv
  have hx := B.exec
  have hb := B.bytes
  have hr := B.returns
  have hts := fun w (h : w ∈ pw) => atoms_spec (ws := Cond.code yX6_dots cX6_dots 5 (some .int) :: pw) B.pre w (List.mem_cons_of_mem _ h)
  have hown : s.vm.findClass RX6 = some m.cls := findClass_of_methodNamed B.named
  have hlocks := B.notSynchronized
  subst hsz
  have hD := hD0
  obtain ⟨H, hHe⟩ : ∃ H : Heap, H = s.heap := ⟨_, rfl⟩
  have hS : va_S (fun _ => False) s.heap H [] := by rw [hHe]; exact va_S.rf
  rw [← hHe] at hP
  have hl := lv_entry ([.ref h0, .int p0, .int p1, .int p2]) (n := 5) (Nat.le_of_ble_eq_true rfl)
  rw [lg_entry_eq]
  generalize (lg_sl ([.ref h0, .int p0, .int p1, .int p2]) ++ List.replicate (5 - (lg_sl ([.ref h0, .int p0, .int p1, .int p2])).length) Slot.unset).toArray = ls at hl ⊢
  have hl : lv_has ls 5 [(0, .ref h0), (1, .int p0), (2, .int p1), (3, .int p2)] := hl
  rw [← hHe]
  refine lv_aload_n hx hb dX6_dots_0 rfl (lv_at hl 0 rfl) ?_
  refine lv_iload_n hx hb dX6_dots_1 rfl (lv_at hl 1 rfl) ?_
  have hPc := hP.sub (ws' := [(h0, .inr (6, [.ref tp, .int 0, .ref nw, .ref dr, .ref rd, .ref sc, .ref sk, .ref fl, .ref ps, .int 0, .int 0, .ref sh])), (nw, .inr (1, [.ref nm, .ref nb, .int 0, .int 0, .int 0]))]) [0, 1] rfl
  have hDc := hD.sub (ws' := [(h0, .inr (6, [.ref tp, .int 0, .ref nw, .ref dr, .ref rd, .ref sc, .ref sk, .ref fl, .ref ps, .int 0, .int 0, .ref sh])), (nw, .inr (1, [.ref nm, .ref nb, .int 0, .int 0, .int 0]))]) [0, 1] (by decide) rfl
  have hKc := hK.sub (tys' := []) [] rfl
  refine ro_i (va_runV (As := [.int p0]) (rest := []) ⟨hx, hb, hml, hown, hts⟩ (c_X6_isMask l dC dI h0 tp nw dr rd sc sk fl ps sh nm nb H.size p0 ) (cwV 1 hts (gV pq666 pq668 pq4 pq74 pq669) rfl rfl rfl (by decide +kernel) ⟨(Nat.le_of_ble_eq_true rfl), (Nat.le_of_ble_eq_true rfl)⟩) (pc_V hPc hDc hKc hN (va_recv hK hP (ci := 6) (q0 := 0) rfl rfl)) rfl rfl hl.1 rfl (lv_room (Nat.le_of_ble_eq_true rfl)) dX6_dots_2 ⟨(Nat.le_of_ble_eq_true rfl), (Nat.le_of_ble_eq_true rfl)⟩) hS hP (fun r1 H locs hr1 hP hS => ?_)
  subst hr1
  refine lv_if_eq (tgt := 12) hx hb dX6_dots_5 (by decide) (fun c2 => ?_) (fun c2 => absurd (by decide +kernel) c2)
  refine lv_iconst (v := (-1)) hx hb dX6_dots_12 (by decide +kernel) ?_
  exact W.iret (v := (-1)) hx hb hr (fun t ht hW => ⟨⟨(-1), (), rfl, rfl, trivial⟩, hS.F ht⟩) hS.2.2 dX6_dots_13

set_option maxHeartbeats 4000000 in
set_option maxRecDepth 100000 in
theorem c_X6_spread (l : Launch) (dC : Nat → ClassId) (dI : Nat → Nat → Nat) (h0 tp nw dr rd sc sk fl ps sh nm nb : Nat) (sz : Nat) (p0 : Int32) (p1 : Int32) : Met l yX6_spread (.code yX6_spread cX6_spread 3 (some .int) :: pw) ({ frames := 1, cells := 0, slots := 0, locals := 21 }) (pc (dC, dI) [.ref h0, .int p0, .int p1] sz [(h0, .inr (6, [.ref tp, .int 0, .ref nw, .ref dr, .ref rd, .ref sc, .ref sk, .ref fl, .ref ps, .int 0, .int 0, .ref sh])), (nw, .inr (1, [.ref nm, .ref nb, .int 0, .int 0, .int 0]))] []) (va_Qi (fun (r : Int32) (_ : Unit) => r = (-1)) (fun _ _ => True) (fun _ => False)) 0 0 (fun _ => False) := by
  refine Met.ofW (cc := cX6_spread) (maxL := 3) (ret := (some .int)) (by decide +kernel) rfl ?_
  intro p e s m args below meth c s₁ B hml hv
  obtain ⟨rfl, hsz, hP, hK, hD0, hN⟩ := hv
  have hx := B.exec
  have hb := B.bytes
  have hr := B.returns
  have hts := fun w (h : w ∈ pw) => atoms_spec (ws := Cond.code yX6_spread cX6_spread 3 (some .int) :: pw) B.pre w (List.mem_cons_of_mem _ h)
  have hown : s.vm.findClass RX6 = some m.cls := findClass_of_methodNamed B.named
  have hlocks := B.notSynchronized
  subst hsz
  have hD := hD0
  obtain ⟨H, hHe⟩ : ∃ H : Heap, H = s.heap := ⟨_, rfl⟩
  have hS : va_S (fun _ => False) s.heap H [] := by rw [hHe]; exact va_S.rf
  rw [← hHe] at hP
  have hl := lv_entry ([.ref h0, .int p0, .int p1]) (n := 3) (Nat.le_of_ble_eq_true rfl)
  rw [lg_entry_eq]
  generalize (lg_sl ([.ref h0, .int p0, .int p1]) ++ List.replicate (3 - (lg_sl ([.ref h0, .int p0, .int p1])).length) Slot.unset).toArray = ls at hl ⊢
  have hl : lv_has ls 3 [(0, .ref h0), (1, .int p0), (2, .int p1)] := hl
  rw [← hHe]
  refine lv_aload_n hx hb dX6_spread_0 rfl (lv_at hl 0 rfl) ?_
  refine lv_iload_n hx hb dX6_spread_1 rfl (lv_at hl 1 rfl) ?_
  have hPc := hP.sub (ws' := [(h0, .inr (6, [.ref tp, .int 0, .ref nw, .ref dr, .ref rd, .ref sc, .ref sk, .ref fl, .ref ps, .int 0, .int 0, .ref sh])), (nw, .inr (1, [.ref nm, .ref nb, .int 0, .int 0, .int 0]))]) [0, 1] rfl
  have hDc := hD.sub (ws' := [(h0, .inr (6, [.ref tp, .int 0, .ref nw, .ref dr, .ref rd, .ref sc, .ref sk, .ref fl, .ref ps, .int 0, .int 0, .ref sh])), (nw, .inr (1, [.ref nm, .ref nb, .int 0, .int 0, .int 0]))]) [0, 1] (by decide) rfl
  have hKc := hK.sub (tys' := []) [] rfl
  refine ro_i (va_runV (As := [.int p0]) (rest := []) ⟨hx, hb, hml, hown, hts⟩ (c_X6_isMask l dC dI h0 tp nw dr rd sc sk fl ps sh nm nb H.size p0 ) (cwV 1 hts (gV pq666 pq668 pq4 pq74 pq669) rfl rfl rfl (by decide +kernel) ⟨(Nat.le_of_ble_eq_true rfl), (Nat.le_of_ble_eq_true rfl)⟩) (pc_V hPc hDc hKc hN (va_recv hK hP (ci := 6) (q0 := 0) rfl rfl)) rfl rfl hl.1 rfl (lv_room (Nat.le_of_ble_eq_true rfl)) dX6_spread_2 ⟨(Nat.le_of_ble_eq_true rfl), (Nat.le_of_ble_eq_true rfl)⟩) hS hP (fun r1 H locs hr1 hP hS => ?_)
  subst hr1
  refine lv_if_ne (tgt := 10) hx hb dX6_spread_5 (by decide) (fun c2 => absurd (by decide +kernel) c2) (fun c2 => ?_)
  refine lv_iconst (v := (-1)) hx hb dX6_spread_8 (by decide +kernel) ?_
  exact W.iret (v := (-1)) hx hb hr (fun t ht hW => ⟨⟨(-1), (), rfl, rfl, trivial⟩, hS.F ht⟩) hS.2.2 dX6_spread_9

set_option maxHeartbeats 4000000 in
set_option maxRecDepth 100000 in
theorem c_X6_share (l : Launch) (dC : Nat → ClassId) (dI : Nat → Nat → Nat) (h0 tp nw dr rd sc sk fl ps sh nm nb : Nat) (sz : Nat) (p0 : Int32) : Met l yX6_share (.code yX6_share cX6_share 3 (some .long) :: pw) ({ frames := 1, cells := 0, slots := 0, locals := 21 }) (pc (dC, dI) [.ref h0, .int p0] sz [(h0, .inr (6, [.ref tp, .int 0, .ref nw, .ref dr, .ref rd, .ref sc, .ref sk, .ref fl, .ref ps, .int 0, .int 0, .ref sh])), (nw, .inr (1, [.ref nm, .ref nb, .int 0, .int 0, .int 0]))] []) (va_Ql (fun (r : Int64) (_ : Unit) => r = (-1)) (fun _ _ => True) (fun _ => False)) 0 0 (fun _ => False) := by
  refine Met.ofW (cc := cX6_share) (maxL := 3) (ret := (some .long)) (by decide +kernel) rfl ?_
  intro p e s m args below meth c s₁ B hml hv
  obtain ⟨rfl, hsz, hP, hK, hD0, hN⟩ := hv
  have hx := B.exec
  have hb := B.bytes
  have hr := B.returns
  have hts := fun w (h : w ∈ pw) => atoms_spec (ws := Cond.code yX6_share cX6_share 3 (some .long) :: pw) B.pre w (List.mem_cons_of_mem _ h)
  have hown : s.vm.findClass RX6 = some m.cls := findClass_of_methodNamed B.named
  have hlocks := B.notSynchronized
  subst hsz
  have hD := hD0
  obtain ⟨H, hHe⟩ : ∃ H : Heap, H = s.heap := ⟨_, rfl⟩
  have hS : va_S (fun _ => False) s.heap H [] := by rw [hHe]; exact va_S.rf
  rw [← hHe] at hP
  have hl := lv_entry ([.ref h0, .int p0]) (n := 3) (Nat.le_of_ble_eq_true rfl)
  rw [lg_entry_eq]
  generalize (lg_sl ([.ref h0, .int p0]) ++ List.replicate (3 - (lg_sl ([.ref h0, .int p0])).length) Slot.unset).toArray = ls at hl ⊢
  have hl : lv_has ls 3 [(0, .ref h0), (1, .int p0)] := hl
  rw [← hHe]
  refine lv_aload_n hx hb dX6_share_0 rfl (lv_at hl 0 rfl) ?_
  refine lv_iload_n hx hb dX6_share_1 rfl (lv_at hl 1 rfl) ?_
  have hPc := hP.sub (ws' := [(h0, .inr (6, [.ref tp, .int 0, .ref nw, .ref dr, .ref rd, .ref sc, .ref sk, .ref fl, .ref ps, .int 0, .int 0, .ref sh])), (nw, .inr (1, [.ref nm, .ref nb, .int 0, .int 0, .int 0]))]) [0, 1] rfl
  have hDc := hD.sub (ws' := [(h0, .inr (6, [.ref tp, .int 0, .ref nw, .ref dr, .ref rd, .ref sc, .ref sk, .ref fl, .ref ps, .int 0, .int 0, .ref sh])), (nw, .inr (1, [.ref nm, .ref nb, .int 0, .int 0, .int 0]))]) [0, 1] (by decide) rfl
  have hKc := hK.sub (tys' := []) [] rfl
  refine ro_i (va_runV (As := [.int p0]) (rest := []) ⟨hx, hb, hml, hown, hts⟩ (c_X6_isMask l dC dI h0 tp nw dr rd sc sk fl ps sh nm nb H.size p0 ) (cwV 1 hts (gV pq666 pq668 pq4 pq74 pq669) rfl rfl rfl (by decide +kernel) ⟨(Nat.le_of_ble_eq_true rfl), (Nat.le_of_ble_eq_true rfl)⟩) (pc_V hPc hDc hKc hN (va_recv hK hP (ci := 6) (q0 := 0) rfl rfl)) rfl rfl hl.1 rfl (lv_room (Nat.le_of_ble_eq_true rfl)) dX6_share_2 ⟨(Nat.le_of_ble_eq_true rfl), (Nat.le_of_ble_eq_true rfl)⟩) hS hP (fun r1 H locs hr1 hP hS => ?_)
  subst hr1
  refine lv_if_ne (tgt := 12) hx hb dX6_share_5 (by decide) (fun c2 => absurd (by decide +kernel) c2) (fun c2 => ?_)
  refine lv_ldc2 hx hb hown (hts _ pq949) dX6_share_8 ?_
  exact W.lret (v := (-1)) hx hb hr (fun t ht hW => ⟨⟨(-1), (), rfl, rfl, trivial⟩, hS.F ht⟩) hS.2.2 dX6_share_11

set_option maxHeartbeats 4000000 in
set_option maxRecDepth 100000 in
theorem c_X6_alike (l : Launch) (dC : Nat → ClassId) (dI : Nat → Nat → Nat) (h0 tp nw dr rd sc sk fl ps sh nm nb : Nat) (sz : Nat) (p0 : Int32) (p1 : Int32) (p2 : Int32) : Met l yX6_alike (.code yX6_alike cX6_alike 4 (some .int) :: pw) ({ frames := 1, cells := 0, slots := 0, locals := 21 }) (pc (dC, dI) [.ref h0, .int p0, .int p1, .int p2] sz [(h0, .inr (6, [.ref tp, .int 0, .ref nw, .ref dr, .ref rd, .ref sc, .ref sk, .ref fl, .ref ps, .int 0, .int 0, .ref sh])), (nw, .inr (1, [.ref nm, .ref nb, .int 0, .int 0, .int 0]))] []) (va_Qi (fun (r : Int32) (_ : Unit) => r = (-1)) (fun _ _ => True) (fun _ => False)) 0 0 (fun _ => False) := by
  refine Met.ofW (cc := cX6_alike) (maxL := 4) (ret := (some .int)) (by decide +kernel) rfl ?_
  intro p e s m args below meth c s₁ B hml hv
  obtain ⟨rfl, hsz, hP, hK, hD0, hN⟩ := hv
  have hx := B.exec
  have hb := B.bytes
  have hr := B.returns
  have hts := fun w (h : w ∈ pw) => atoms_spec (ws := Cond.code yX6_alike cX6_alike 4 (some .int) :: pw) B.pre w (List.mem_cons_of_mem _ h)
  have hown : s.vm.findClass RX6 = some m.cls := findClass_of_methodNamed B.named
  have hlocks := B.notSynchronized
  subst hsz
  have hD := hD0
  obtain ⟨H, hHe⟩ : ∃ H : Heap, H = s.heap := ⟨_, rfl⟩
  have hS : va_S (fun _ => False) s.heap H [] := by rw [hHe]; exact va_S.rf
  rw [← hHe] at hP
  have hl := lv_entry ([.ref h0, .int p0, .int p1, .int p2]) (n := 4) (Nat.le_of_ble_eq_true rfl)
  rw [lg_entry_eq]
  generalize (lg_sl ([.ref h0, .int p0, .int p1, .int p2]) ++ List.replicate (4 - (lg_sl ([.ref h0, .int p0, .int p1, .int p2])).length) Slot.unset).toArray = ls at hl ⊢
  have hl : lv_has ls 4 [(0, .ref h0), (1, .int p0), (2, .int p1), (3, .int p2)] := hl
  rw [← hHe]
  refine lv_aload_n hx hb dX6_alike_0 rfl (lv_at hl 0 rfl) ?_
  refine lv_iload_n hx hb dX6_alike_1 rfl (lv_at hl 1 rfl) ?_
  have hPc := hP.sub (ws' := [(h0, .inr (6, [.ref tp, .int 0, .ref nw, .ref dr, .ref rd, .ref sc, .ref sk, .ref fl, .ref ps, .int 0, .int 0, .ref sh])), (nw, .inr (1, [.ref nm, .ref nb, .int 0, .int 0, .int 0]))]) [0, 1] rfl
  have hDc := hD.sub (ws' := [(h0, .inr (6, [.ref tp, .int 0, .ref nw, .ref dr, .ref rd, .ref sc, .ref sk, .ref fl, .ref ps, .int 0, .int 0, .ref sh])), (nw, .inr (1, [.ref nm, .ref nb, .int 0, .int 0, .int 0]))]) [0, 1] (by decide) rfl
  have hKc := hK.sub (tys' := []) [] rfl
  refine ro_i (va_runV (As := [.int p0]) (rest := []) ⟨hx, hb, hml, hown, hts⟩ (c_X6_isMask l dC dI h0 tp nw dr rd sc sk fl ps sh nm nb H.size p0 ) (cwV 1 hts (gV pq666 pq668 pq4 pq74 pq669) rfl rfl rfl (by decide +kernel) ⟨(Nat.le_of_ble_eq_true rfl), (Nat.le_of_ble_eq_true rfl)⟩) (pc_V hPc hDc hKc hN (va_recv hK hP (ci := 6) (q0 := 0) rfl rfl)) rfl rfl hl.1 rfl (lv_room (Nat.le_of_ble_eq_true rfl)) dX6_alike_2 ⟨(Nat.le_of_ble_eq_true rfl), (Nat.le_of_ble_eq_true rfl)⟩) hS hP (fun r1 H locs hr1 hP hS => ?_)
  subst hr1
  refine lv_if_eq (tgt := 24) hx hb dX6_alike_5 (by decide) (fun c2 => ?_) (fun c2 => absurd (by decide +kernel) c2)
  refine lv_iconst (v := (-1)) hx hb dX6_alike_24 (by decide +kernel) ?_
  exact W.iret (v := (-1)) hx hb hr (fun t ht hW => ⟨⟨(-1), (), rfl, rfl, trivial⟩, hS.F ht⟩) hS.2.2 dX6_alike_25
end
section
def yX7_isBody : MethodName := ⟨RX7, "isBody", "(I)Z"⟩
def yX7_isMask : MethodName := ⟨RX7, "isMask", "(I)Z"⟩
def yX7_changes : MethodName := ⟨RX7, "changes", "(IZ)I"⟩
def yX7_areTwo : MethodName := ⟨RX7, "areTwo", "(II)Z"⟩
def yX7_in : MethodName := ⟨RX7, "in", "(JJJ)Z"⟩
abbrev cX7_in : ByteArray := prog_9_method_2_code
abbrev cX7_isBody : ByteArray := prog_9_method_32_code
abbrev cX7_isMask : ByteArray := prog_9_method_31_code
abbrev cX7_changes : ByteArray := prog_9_method_66_code
abbrev cX7_areTwo : ByteArray := prog_9_method_33_code
abbrev cX7_body : ByteArray := prog_9_method_92_code
abbrev cX7_common : ByteArray := prog_9_method_93_code
abbrev cX7_crop : ByteArray := prog_9_method_78_code
abbrev cX7_dot : ByteArray := prog_9_method_90_code
abbrev cX7_flip : ByteArray := prog_9_method_57_code
abbrev cX7_grow : ByteArray := prog_9_method_67_code
abbrev cX7_join : ByteArray := prog_9_method_69_code
abbrev cX7_layers : ByteArray := prog_9_method_59_code
abbrev cX7_mask : ByteArray := prog_9_method_89_code
abbrev cX7_meet : ByteArray := prog_9_method_94_code
abbrev cX7_place : ByteArray := prog_9_method_56_code
abbrev cX7_push : ByteArray := prog_9_method_75_code
abbrev cX7_quarter : ByteArray := prog_9_method_81_code
abbrev cX7_row : ByteArray := prog_9_method_91_code
abbrev cX7_slide : ByteArray := prog_9_method_71_code
abbrev cX7_speed : ByteArray := prog_9_method_60_code
abbrev cX7_thin : ByteArray := prog_9_method_68_code
abbrev cX7_turn : ByteArray := prog_9_method_61_code
def yX7_body : MethodName := ⟨RX7, "body", "(II)I"⟩
def yX7_common : MethodName := ⟨RX7, "common", "(II)I"⟩
def yX7_crop : MethodName := ⟨RX7, "crop", "(I)I"⟩
def yX7_dot : MethodName := ⟨RX7, "dot", "(III)I"⟩
def yX7_flip : MethodName := ⟨RX7, "flip", "(II)I"⟩
def yX7_grow : MethodName := ⟨RX7, "grow", "(I)I"⟩
def yX7_join : MethodName := ⟨RX7, "join", "(IIIII)I"⟩
def yX7_layers : MethodName := ⟨RX7, "layers", "(III)I"⟩
def yX7_mask : MethodName := ⟨RX7, "mask", "(II)I"⟩
def yX7_meet : MethodName := ⟨RX7, "meet", "(III)I"⟩
def yX7_place : MethodName := ⟨RX7, "place", "(III)I"⟩
def yX7_push : MethodName := ⟨RX7, "push", "(III)I"⟩
def yX7_quarter : MethodName := ⟨RX7, "quarter", "(I)I"⟩
def yX7_row : MethodName := ⟨RX7, "row", "(III)J"⟩
def yX7_slide : MethodName := ⟨RX7, "slide", "(III)I"⟩
def yX7_speed : MethodName := ⟨RX7, "speed", "(III)I"⟩
def yX7_thin : MethodName := ⟨RX7, "thin", "(I)I"⟩
def yX7_turn : MethodName := ⟨RX7, "turn", "(III)I"⟩
theorem dX7_areTwo_0 : decode cX7_areTwo 0 = .ok (.aload_n 0, 1) := by decide +kernel
theorem dX7_areTwo_1 : decode cX7_areTwo 1 = .ok (.iload_n 1, 1) := by decide +kernel
theorem dX7_areTwo_2 : decode cX7_areTwo 2 = .ok (.invokevirtual 196, 3) := by decide +kernel
theorem dX7_areTwo_5 : decode cX7_areTwo 5 = .ok (.ifCond .eq 20, 3) := by decide +kernel
theorem dX7_areTwo_25 : decode cX7_areTwo 25 = .ok (.iconst 0, 1) := by decide +kernel
theorem dX7_areTwo_26 : decode cX7_areTwo 26 = .ok (.ireturn, 1) := by decide +kernel
theorem dX7_body_0 : decode cX7_body 0 = .ok (.aload_n 0, 1) := by decide +kernel
theorem dX7_body_1 : decode cX7_body 1 = .ok (.iload_n 1, 1) := by decide +kernel
theorem dX7_body_2 : decode cX7_body 2 = .ok (.invokevirtual 196, 3) := by decide +kernel
theorem dX7_body_5 : decode cX7_body 5 = .ok (.ifCond .eq 24, 3) := by decide +kernel
theorem dX7_body_29 : decode cX7_body 29 = .ok (.sipush (-2000), 3) := by decide +kernel
theorem dX7_body_32 : decode cX7_body 32 = .ok (.ireturn, 1) := by decide +kernel
theorem dX7_changes_0 : decode cX7_changes 0 = .ok (.aload_n 0, 1) := by decide +kernel
theorem dX7_changes_1 : decode cX7_changes 1 = .ok (.iload_n 1, 1) := by decide +kernel
theorem dX7_changes_2 : decode cX7_changes 2 = .ok (.invokevirtual 301, 3) := by decide +kernel
theorem dX7_changes_5 : decode cX7_changes 5 = .ok (.ifCond .ne 5, 3) := by decide +kernel
theorem dX7_changes_8 : decode cX7_changes 8 = .ok (.iconst (-1), 1) := by decide +kernel
theorem dX7_changes_9 : decode cX7_changes 9 = .ok (.ireturn, 1) := by decide +kernel
theorem dX7_common_0 : decode cX7_common 0 = .ok (.aload_n 0, 1) := by decide +kernel
theorem dX7_common_1 : decode cX7_common 1 = .ok (.iload_n 1, 1) := by decide +kernel
theorem dX7_common_2 : decode cX7_common 2 = .ok (.iload_n 2, 1) := by decide +kernel
theorem dX7_common_3 : decode cX7_common 3 = .ok (.invokevirtual 382, 3) := by decide +kernel
theorem dX7_common_6 : decode cX7_common 6 = .ok (.ifCond .ne 5, 3) := by decide +kernel
theorem dX7_common_9 : decode cX7_common 9 = .ok (.iconst (-1), 1) := by decide +kernel
theorem dX7_common_10 : decode cX7_common 10 = .ok (.ireturn, 1) := by decide +kernel
theorem dX7_crop_0 : decode cX7_crop 0 = .ok (.aload_n 0, 1) := by decide +kernel
theorem dX7_crop_1 : decode cX7_crop 1 = .ok (.iload_n 1, 1) := by decide +kernel
theorem dX7_crop_2 : decode cX7_crop 2 = .ok (.invokevirtual 301, 3) := by decide +kernel
theorem dX7_crop_5 : decode cX7_crop 5 = .ok (.ifCond .ne 5, 3) := by decide +kernel
theorem dX7_crop_8 : decode cX7_crop 8 = .ok (.iconst (-1), 1) := by decide +kernel
theorem dX7_crop_9 : decode cX7_crop 9 = .ok (.ireturn, 1) := by decide +kernel
theorem dX7_dot_0 : decode cX7_dot 0 = .ok (.aload_n 0, 1) := by decide +kernel
theorem dX7_dot_1 : decode cX7_dot 1 = .ok (.iload_n 1, 1) := by decide +kernel
theorem dX7_dot_2 : decode cX7_dot 2 = .ok (.invokevirtual 301, 3) := by decide +kernel
theorem dX7_dot_5 : decode cX7_dot 5 = .ok (.ifCond .eq 16, 3) := by decide +kernel
theorem dX7_dot_21 : decode cX7_dot 21 = .ok (.iconst (-1), 1) := by decide +kernel
theorem dX7_dot_22 : decode cX7_dot 22 = .ok (.ireturn, 1) := by decide +kernel
theorem dX7_flip_0 : decode cX7_flip 0 = .ok (.aload_n 0, 1) := by decide +kernel
theorem dX7_flip_1 : decode cX7_flip 1 = .ok (.iload_n 1, 1) := by decide +kernel
theorem dX7_flip_2 : decode cX7_flip 2 = .ok (.invokevirtual 196, 3) := by decide +kernel
theorem dX7_flip_5 : decode cX7_flip 5 = .ok (.ifCond .eq 15, 3) := by decide +kernel
theorem dX7_flip_20 : decode cX7_flip 20 = .ok (.iconst (-1), 1) := by decide +kernel
theorem dX7_flip_21 : decode cX7_flip 21 = .ok (.ireturn, 1) := by decide +kernel
theorem dX7_grow_0 : decode cX7_grow 0 = .ok (.aload_n 0, 1) := by decide +kernel
theorem dX7_grow_1 : decode cX7_grow 1 = .ok (.iload_n 1, 1) := by decide +kernel
theorem dX7_grow_2 : decode cX7_grow 2 = .ok (.iconst 1, 1) := by decide +kernel
theorem dX7_grow_3 : decode cX7_grow 3 = .ok (.invokevirtual 313, 3) := by decide +kernel
theorem dX7_grow_6 : decode cX7_grow 6 = .ok (.ireturn, 1) := by decide +kernel
theorem dX7_in_0 : decode cX7_in 0 = .ok (.lload_n 0, 1) := by decide +kernel
theorem dX7_in_1 : decode cX7_in 1 = .ok (.lload_n 2, 1) := by decide +kernel
theorem dX7_in_2 : decode cX7_in 2 = .ok (.lcmp, 1) := by decide +kernel
theorem dX7_in_3 : decode cX7_in 3 = .ok (.ifCond .lt 14, 3) := by decide +kernel
theorem dX7_in_6 : decode cX7_in 6 = .ok (.lload_n 0, 1) := by decide +kernel
theorem dX7_in_7 : decode cX7_in 7 = .ok (.lload 4, 2) := by decide +kernel
theorem dX7_in_9 : decode cX7_in 9 = .ok (.lcmp, 1) := by decide +kernel
theorem dX7_in_10 : decode cX7_in 10 = .ok (.ifCond .gt 7, 3) := by decide +kernel
theorem dX7_in_13 : decode cX7_in 13 = .ok (.iconst 1, 1) := by decide +kernel
theorem dX7_in_14 : decode cX7_in 14 = .ok (.goto 4, 3) := by decide +kernel
theorem dX7_in_17 : decode cX7_in 17 = .ok (.iconst 0, 1) := by decide +kernel
theorem dX7_in_18 : decode cX7_in 18 = .ok (.ireturn, 1) := by decide +kernel
theorem dX7_isBody_0 : decode cX7_isBody 0 = .ok (.iload_n 1, 1) := by decide +kernel
theorem dX7_isBody_1 : decode cX7_isBody 1 = .ok (.i2l, 1) := by decide +kernel
theorem dX7_isBody_2 : decode cX7_isBody 2 = .ok (.lconst 0, 1) := by decide +kernel
theorem dX7_isBody_3 : decode cX7_isBody 3 = .ok (.aload_n 0, 1) := by decide +kernel
theorem dX7_isBody_4 : decode cX7_isBody 4 = .ok (.getfield 9, 3) := by decide +kernel
theorem dX7_isBody_7 : decode cX7_isBody 7 = .ok (.iconst 1, 1) := by decide +kernel
theorem dX7_isBody_8 : decode cX7_isBody 8 = .ok (.iaload, 1) := by decide +kernel
theorem dX7_isBody_9 : decode cX7_isBody 9 = .ok (.iconst 1, 1) := by decide +kernel
theorem dX7_isBody_10 : decode cX7_isBody 10 = .ok (.isub, 1) := by decide +kernel
theorem dX7_isBody_11 : decode cX7_isBody 11 = .ok (.i2l, 1) := by decide +kernel
theorem dX7_isBody_12 : decode cX7_isBody 12 = .ok (.invokestatic 96, 3) := by decide +kernel
theorem dX7_isBody_15 : decode cX7_isBody 15 = .ok (.ireturn, 1) := by decide +kernel
theorem dX7_isMask_0 : decode cX7_isMask 0 = .ok (.iload_n 1, 1) := by decide +kernel
theorem dX7_isMask_1 : decode cX7_isMask 1 = .ok (.i2l, 1) := by decide +kernel
theorem dX7_isMask_2 : decode cX7_isMask 2 = .ok (.lconst 0, 1) := by decide +kernel
theorem dX7_isMask_3 : decode cX7_isMask 3 = .ok (.aload_n 0, 1) := by decide +kernel
theorem dX7_isMask_4 : decode cX7_isMask 4 = .ok (.getfield 9, 3) := by decide +kernel
theorem dX7_isMask_7 : decode cX7_isMask 7 = .ok (.iconst 0, 1) := by decide +kernel
theorem dX7_isMask_8 : decode cX7_isMask 8 = .ok (.iaload, 1) := by decide +kernel
theorem dX7_isMask_9 : decode cX7_isMask 9 = .ok (.iconst 1, 1) := by decide +kernel
theorem dX7_isMask_10 : decode cX7_isMask 10 = .ok (.isub, 1) := by decide +kernel
theorem dX7_isMask_11 : decode cX7_isMask 11 = .ok (.i2l, 1) := by decide +kernel
theorem dX7_isMask_12 : decode cX7_isMask 12 = .ok (.invokestatic 96, 3) := by decide +kernel
theorem dX7_isMask_15 : decode cX7_isMask 15 = .ok (.ireturn, 1) := by decide +kernel
theorem dX7_join_0 : decode cX7_join 0 = .ok (.aload_n 0, 1) := by decide +kernel
theorem dX7_join_1 : decode cX7_join 1 = .ok (.iload_n 1, 1) := by decide +kernel
theorem dX7_join_2 : decode cX7_join 2 = .ok (.invokevirtual 301, 3) := by decide +kernel
theorem dX7_join_5 : decode cX7_join 5 = .ok (.ifCond .eq 53, 3) := by decide +kernel
theorem dX7_join_58 : decode cX7_join 58 = .ok (.iconst (-1), 1) := by decide +kernel
theorem dX7_join_59 : decode cX7_join 59 = .ok (.ireturn, 1) := by decide +kernel
theorem dX7_layers_0 : decode cX7_layers 0 = .ok (.aload_n 0, 1) := by decide +kernel
theorem dX7_layers_1 : decode cX7_layers 1 = .ok (.iload_n 1, 1) := by decide +kernel
theorem dX7_layers_2 : decode cX7_layers 2 = .ok (.invokevirtual 196, 3) := by decide +kernel
theorem dX7_layers_5 : decode cX7_layers 5 = .ok (.ifCond .eq 38, 3) := by decide +kernel
theorem dX7_layers_43 : decode cX7_layers 43 = .ok (.iconst (-1), 1) := by decide +kernel
theorem dX7_layers_44 : decode cX7_layers 44 = .ok (.ireturn, 1) := by decide +kernel
theorem dX7_mask_0 : decode cX7_mask 0 = .ok (.aload_n 0, 1) := by decide +kernel
theorem dX7_mask_1 : decode cX7_mask 1 = .ok (.iload_n 1, 1) := by decide +kernel
theorem dX7_mask_2 : decode cX7_mask 2 = .ok (.invokevirtual 301, 3) := by decide +kernel
theorem dX7_mask_5 : decode cX7_mask 5 = .ok (.ifCond .ne 5, 3) := by decide +kernel
theorem dX7_mask_8 : decode cX7_mask 8 = .ok (.iconst (-1), 1) := by decide +kernel
theorem dX7_mask_9 : decode cX7_mask 9 = .ok (.ireturn, 1) := by decide +kernel
theorem dX7_meet_0 : decode cX7_meet 0 = .ok (.aload_n 0, 1) := by decide +kernel
theorem dX7_meet_1 : decode cX7_meet 1 = .ok (.iload_n 1, 1) := by decide +kernel
theorem dX7_meet_2 : decode cX7_meet 2 = .ok (.iload_n 2, 1) := by decide +kernel
theorem dX7_meet_3 : decode cX7_meet 3 = .ok (.invokevirtual 382, 3) := by decide +kernel
theorem dX7_meet_6 : decode cX7_meet 6 = .ok (.ifCond .eq 13, 3) := by decide +kernel
theorem dX7_meet_19 : decode cX7_meet 19 = .ok (.sipush (-2000), 3) := by decide +kernel
theorem dX7_meet_22 : decode cX7_meet 22 = .ok (.ireturn, 1) := by decide +kernel
theorem dX7_place_0 : decode cX7_place 0 = .ok (.aload_n 0, 1) := by decide +kernel
theorem dX7_place_1 : decode cX7_place 1 = .ok (.iload_n 1, 1) := by decide +kernel
theorem dX7_place_2 : decode cX7_place 2 = .ok (.invokevirtual 196, 3) := by decide +kernel
theorem dX7_place_5 : decode cX7_place 5 = .ok (.ifCond .eq 12, 3) := by decide +kernel
theorem dX7_place_17 : decode cX7_place 17 = .ok (.iconst (-1), 1) := by decide +kernel
theorem dX7_place_18 : decode cX7_place 18 = .ok (.ireturn, 1) := by decide +kernel
theorem dX7_push_0 : decode cX7_push 0 = .ok (.aload_n 0, 1) := by decide +kernel
theorem dX7_push_1 : decode cX7_push 1 = .ok (.iload_n 1, 1) := by decide +kernel
theorem dX7_push_2 : decode cX7_push 2 = .ok (.invokevirtual 196, 3) := by decide +kernel
theorem dX7_push_5 : decode cX7_push 5 = .ok (.ifCond .eq 11, 3) := by decide +kernel
theorem dX7_push_16 : decode cX7_push 16 = .ok (.iconst (-1), 1) := by decide +kernel
theorem dX7_push_17 : decode cX7_push 17 = .ok (.ireturn, 1) := by decide +kernel
theorem dX7_quarter_0 : decode cX7_quarter 0 = .ok (.aload_n 0, 1) := by decide +kernel
theorem dX7_quarter_1 : decode cX7_quarter 1 = .ok (.iload_n 1, 1) := by decide +kernel
theorem dX7_quarter_2 : decode cX7_quarter 2 = .ok (.invokevirtual 301, 3) := by decide +kernel
theorem dX7_quarter_5 : decode cX7_quarter 5 = .ok (.ifCond .ne 5, 3) := by decide +kernel
theorem dX7_quarter_8 : decode cX7_quarter 8 = .ok (.iconst (-1), 1) := by decide +kernel
theorem dX7_quarter_9 : decode cX7_quarter 9 = .ok (.ireturn, 1) := by decide +kernel
theorem dX7_row_0 : decode cX7_row 0 = .ok (.aload_n 0, 1) := by decide +kernel
theorem dX7_row_1 : decode cX7_row 1 = .ok (.iload_n 1, 1) := by decide +kernel
theorem dX7_row_2 : decode cX7_row 2 = .ok (.invokevirtual 301, 3) := by decide +kernel
theorem dX7_row_5 : decode cX7_row 5 = .ok (.ifCond .eq 48, 3) := by decide +kernel
theorem dX7_row_53 : decode cX7_row 53 = .ok (.lconst 0, 1) := by decide +kernel
theorem dX7_row_54 : decode cX7_row 54 = .ok (.lreturn, 1) := by decide +kernel
theorem dX7_slide_0 : decode cX7_slide 0 = .ok (.aload_n 0, 1) := by decide +kernel
theorem dX7_slide_1 : decode cX7_slide 1 = .ok (.iload_n 1, 1) := by decide +kernel
theorem dX7_slide_2 : decode cX7_slide 2 = .ok (.invokevirtual 196, 3) := by decide +kernel
theorem dX7_slide_5 : decode cX7_slide 5 = .ok (.ifCond .eq 11, 3) := by decide +kernel
theorem dX7_slide_16 : decode cX7_slide 16 = .ok (.iconst (-1), 1) := by decide +kernel
theorem dX7_slide_17 : decode cX7_slide 17 = .ok (.ireturn, 1) := by decide +kernel
theorem dX7_speed_0 : decode cX7_speed 0 = .ok (.aload_n 0, 1) := by decide +kernel
theorem dX7_speed_1 : decode cX7_speed 1 = .ok (.iload_n 1, 1) := by decide +kernel
theorem dX7_speed_2 : decode cX7_speed 2 = .ok (.invokevirtual 196, 3) := by decide +kernel
theorem dX7_speed_5 : decode cX7_speed 5 = .ok (.ifCond .eq 43, 3) := by decide +kernel
theorem dX7_speed_48 : decode cX7_speed 48 = .ok (.iconst (-1), 1) := by decide +kernel
theorem dX7_speed_49 : decode cX7_speed 49 = .ok (.ireturn, 1) := by decide +kernel
theorem dX7_thin_0 : decode cX7_thin 0 = .ok (.aload_n 0, 1) := by decide +kernel
theorem dX7_thin_1 : decode cX7_thin 1 = .ok (.iload_n 1, 1) := by decide +kernel
theorem dX7_thin_2 : decode cX7_thin 2 = .ok (.iconst 0, 1) := by decide +kernel
theorem dX7_thin_3 : decode cX7_thin 3 = .ok (.invokevirtual 313, 3) := by decide +kernel
theorem dX7_thin_6 : decode cX7_thin 6 = .ok (.ireturn, 1) := by decide +kernel
theorem dX7_turn_0 : decode cX7_turn 0 = .ok (.aload_n 0, 1) := by decide +kernel
theorem dX7_turn_1 : decode cX7_turn 1 = .ok (.iload_n 1, 1) := by decide +kernel
theorem dX7_turn_2 : decode cX7_turn 2 = .ok (.invokevirtual 301, 3) := by decide +kernel
theorem dX7_turn_5 : decode cX7_turn 5 = .ok (.ifCond .eq 37, 3) := by decide +kernel
theorem dX7_turn_42 : decode cX7_turn 42 = .ok (.iconst (-1), 1) := by decide +kernel
theorem dX7_turn_43 : decode cX7_turn 43 = .ok (.ireturn, 1) := by decide +kernel
set_option maxRecDepth 100000 in
theorem pq23 : Cond.selects RX7 yX7_isBody yX7_isBody ∈ pw := pw_mem (i := 23) (by decide +kernel) rfl
set_option maxRecDepth 100000 in
theorem pq31 : Cond.selects RX7 yX7_isMask yX7_isMask ∈ pw := pw_mem (i := 31) (by decide +kernel) rfl
set_option maxRecDepth 100000 in
theorem pq35 : Cond.selects RX7 yX7_changes yX7_changes ∈ pw := pw_mem (i := 35) (by decide +kernel) rfl
set_option maxRecDepth 100000 in
theorem pq62 : Cond.selects RX7 yX7_areTwo yX7_areTwo ∈ pw := pw_mem (i := 62) (by decide +kernel) rfl
set_option maxRecDepth 100000 in
theorem pq81 : Cond.initialized RX7 ∈ pw := pw_mem (i := 81) (by decide +kernel) rfl
set_option maxRecDepth 100000 in
theorem pq1234 : Cond.methodLink RX7 96 yX7_in ∈ pw := pw_mem (i := 1234) (by decide +kernel) rfl
set_option maxRecDepth 100000 in
theorem pq1235 : Cond.static yX7_in ∈ pw := pw_mem (i := 1235) (by decide +kernel) rfl
set_option maxRecDepth 100000 in
theorem pq1236 : Cond.code yX7_in cX7_in 6 (some .boolean) ∈ pw := pw_mem (i := 1236) (by rfl) rfl
set_option maxRecDepth 100000 in
theorem pq1310 : Cond.methodLink RX7 196 yX7_isBody ∈ pw := pw_mem (i := 1310) (by decide +kernel) rfl
set_option maxRecDepth 100000 in
theorem pq1312 : Cond.instanceMethod yX7_isBody ∈ pw := pw_mem (i := 1312) (by decide +kernel) rfl
set_option maxRecDepth 100000 in
theorem pq1313 : Cond.code yX7_isBody cX7_isBody 2 (some .boolean) ∈ pw := pw_mem (i := 1313) (by rfl) rfl
set_option maxRecDepth 100000 in
theorem pq1364 : Cond.methodLink RX7 301 yX7_isMask ∈ pw := pw_mem (i := 1364) (by decide +kernel) rfl
set_option maxRecDepth 100000 in
theorem pq1366 : Cond.instanceMethod yX7_isMask ∈ pw := pw_mem (i := 1366) (by decide +kernel) rfl
set_option maxRecDepth 100000 in
theorem pq1367 : Cond.code yX7_isMask cX7_isMask 2 (some .boolean) ∈ pw := pw_mem (i := 1367) (by rfl) rfl
set_option maxRecDepth 100000 in
theorem pq1387 : Cond.methodLink RX7 313 yX7_changes ∈ pw := pw_mem (i := 1387) (by decide +kernel) rfl
set_option maxRecDepth 100000 in
theorem pq1389 : Cond.instanceMethod yX7_changes ∈ pw := pw_mem (i := 1389) (by decide +kernel) rfl
set_option maxRecDepth 100000 in
theorem pq1390 : Cond.code yX7_changes cX7_changes 8 (some .int) ∈ pw := pw_mem (i := 1390) (by rfl) rfl
set_option maxRecDepth 100000 in
theorem pq1571 : Cond.methodLink RX7 382 yX7_areTwo ∈ pw := pw_mem (i := 1571) (by decide +kernel) rfl
set_option maxRecDepth 100000 in
theorem pq1573 : Cond.instanceMethod yX7_areTwo ∈ pw := pw_mem (i := 1573) (by decide +kernel) rfl
set_option maxRecDepth 100000 in
theorem pq1574 : Cond.code yX7_areTwo cX7_areTwo 3 (some .boolean) ∈ pw := pw_mem (i := 1574) (by rfl) rfl
theorem in_neg (x : Int64) : x < 0 ∨ (-1) < x := by
  rcases Int64.lt_or_le x 0 with h | h
  · exact Or.inl h
  · exact Or.inr (Int64.lt_of_lt_of_le (by decide +kernel) h)

set_option maxHeartbeats 4000000 in
set_option maxRecDepth 100000 in
theorem c_X7_in (l : Launch) (dC : Nat → ClassId) (dI : Nat → Nat → Nat) (sz : Nat) (p0 : Int64) (p1 : Int64) (p2 : Int64) : Met l yX7_in (.code yX7_in cX7_in 6 (some .boolean) :: pw) ({ frames := 0, cells := 0, slots := 0, locals := 0 }) (pc (dC, dI) [.long p0, .long p1, .long p2] sz [] []) (va_Qi (fun (r : Int32) (_ : Unit) => r = if p0 < p1 ∨ p2 < p0 then 0 else 1) (fun _ _ => True) (fun _ => False)) 0 0 (fun _ => False) := by
  refine Met.ofW (cc := cX7_in) (maxL := 6) (ret := (some .boolean)) (by decide +kernel) rfl ?_
  intro p e s m args below meth c s₁ B hml hv
  obtain ⟨rfl, hsz, hP, hK, hD0, hN⟩ := hv
  have hx := B.exec
  have hb := B.bytes
  have hr := B.returns
  have hts := fun w (h : w ∈ pw) => atoms_spec (ws := Cond.code yX7_in cX7_in 6 (some .boolean) :: pw) B.pre w (List.mem_cons_of_mem _ h)
  have hown : s.vm.findClass RX7 = some m.cls := findClass_of_methodNamed B.named
  have hlocks := B.notSynchronized
  subst hsz
  have hD := hD0
  obtain ⟨H, hHe⟩ : ∃ H : Heap, H = s.heap := ⟨_, rfl⟩
  have hS : va_S (fun _ => False) s.heap H [] := by rw [hHe]; exact va_S.rf
  rw [← hHe] at hP
  have hl := lv_entry ([.long p0, .long p1, .long p2]) (n := 6) (Nat.le_of_ble_eq_true rfl)
  rw [lg_entry_eq]
  generalize (lg_sl ([.long p0, .long p1, .long p2]) ++ List.replicate (6 - (lg_sl ([.long p0, .long p1, .long p2])).length) Slot.unset).toArray = ls at hl ⊢
  have hl : lv_has ls 6 [(0, .long p0), (2, .long p1), (4, .long p2)] := hl
  rw [← hHe]
  refine lv_lload_n hx hb dX7_in_0 rfl (lv_at hl 0 rfl) ?_
  refine lv_lload_n hx hb dX7_in_1 rfl (lv_at hl 1 rfl) ?_
  refine W.lcmp hx hb dX7_in_2 ?_
  refine lv_topi (fun z1 ez1 => ?_)
  refine lv_if_lt (tgt := 17) hx hb dX7_in_3 (by decide) (fun c2 => ?_) (fun c2 => ?_)
  · refine lv_iconst (v := 0) hx hb dX7_in_17 (by decide +kernel) ?_
    have c2x := (lg_cmp_lt _ _).mp (ez1 ▸ c2)
    exact W.zret (v := 0) hx hb hr (by decide +kernel) (fun t ht hW => ⟨⟨0, (), rfl, (if_pos (Or.inl c2x)).symm, trivial⟩, hS.F ht⟩) hS.2.2 dX7_in_18
  · refine lv_lload_n hx hb dX7_in_6 rfl (lv_at hl 0 rfl) ?_
    refine lv_lload hx hb dX7_in_7 (lv_at hl 2 rfl) ?_
    refine W.lcmp hx hb dX7_in_9 ?_
    refine lv_topi (fun z3 ez3 => ?_)
    refine lv_if_gt (tgt := 17) hx hb dX7_in_10 (by decide) (fun c4 => ?_) (fun c4 => ?_)
    · refine lv_iconst (v := 0) hx hb dX7_in_17 (by decide +kernel) ?_
      have c2x := fun h => c2 (by rw [ez1]; exact (lg_cmp_lt _ _).mpr h)
      have c4x := (lg_cmp_gt _ _).mp (ez3 ▸ c4)
      exact W.zret (v := 0) hx hb hr (by decide +kernel) (fun t ht hW => ⟨⟨0, (), rfl, (if_pos (Or.inr c4x)).symm, trivial⟩, hS.F ht⟩) hS.2.2 dX7_in_18
    · refine lv_iconst (v := 1) hx hb dX7_in_13 (by decide +kernel) ?_
      refine lv_goto (tgt := 18) hx hb dX7_in_14 (by decide) ?_
      have c2x := fun h => c2 (by rw [ez1]; exact (lg_cmp_lt _ _).mpr h)
      have c4x := fun h => c4 (by rw [ez3]; exact (lg_cmp_gt _ _).mpr h)
      exact W.zret (v := 1) hx hb hr (by decide +kernel) (fun t ht hW => ⟨⟨1, (), rfl, (if_neg (fun h => h.elim c2x c4x)).symm, trivial⟩, hS.F ht⟩) hS.2.2 dX7_in_18

set_option maxHeartbeats 4000000 in
set_option maxRecDepth 100000 in
theorem c_X7_isMask (l : Launch) (dC : Nat → ClassId) (dI : Nat → Nat → Nat) (h0 mnw mhd mas mps msf mdt mhdd masd mpsd msfd mkp mtp mld mmd men mil mqu mbx : Nat) (kI : ClassId) (sz : Nat) (p0 : Int32) : Met l yX7_isMask (.code yX7_isMask cX7_isMask 2 (some .boolean) :: pw) ({ frames := 1, cells := 0, slots := 0, locals := 25 }) (pc (dC, dI) [.ref h0, .int p0] sz [(h0, .inr (7, [.ref mnw, .ref mhd, .ref mas, .ref mps, .ref msf, .ref mdt, .ref mhdd, .ref masd, .ref mpsd, .ref msfd, .ref mkp, .int 0, .ref mtp, .int 0, .int 0, .int 0, .int 0, .ref mld, .int 0, .ref mmd, .ref men, .ref mil, .ref mqu, .int 0, .int 0, .ref mbx])), (mnw, .inl (kI, 99, .inl (fun _ => 0)))] [(kI, .int)]) (va_Qi (fun (r : Int32) (_ : Unit) => r = 0) (fun _ _ => True) (fun _ => False)) 0 0 (fun _ => False) := by
  refine Met.ofW (cc := cX7_isMask) (maxL := 2) (ret := (some .boolean)) (by decide +kernel) rfl ?_
  intro p e s m args below meth c s₁ B hml hv
  obtain ⟨rfl, hsz, hP, hK, hD0, hN⟩ := hv
  have hx := B.exec
  have hb := B.bytes
  have hr := B.returns
  have hts := fun w (h : w ∈ pw) => atoms_spec (ws := Cond.code yX7_isMask cX7_isMask 2 (some .boolean) :: pw) B.pre w (List.mem_cons_of_mem _ h)
  have hown : s.vm.findClass RX7 = some m.cls := findClass_of_methodNamed B.named
  have hlocks := B.notSynchronized
  subst hsz
  have hD := hD0
  obtain ⟨H, hHe⟩ : ∃ H : Heap, H = s.heap := ⟨_, rfl⟩
  have hS : va_S (fun _ => False) s.heap H [] := by rw [hHe]; exact va_S.rf
  rw [← hHe] at hP
  have hl := lv_entry ([.ref h0, .int p0]) (n := 2) (Nat.le_of_ble_eq_true rfl)
  rw [lg_entry_eq]
  generalize (lg_sl ([.ref h0, .int p0]) ++ List.replicate (2 - (lg_sl ([.ref h0, .int p0])).length) Slot.unset).toArray = ls at hl ⊢
  have hl : lv_has ls 2 [(0, .ref h0), (1, .int p0)] := hl
  rw [← hHe]
  refine lv_iload_n hx hb dX7_isMask_0 rfl (lv_at hl 1 rfl) ?_
  refine lv_i2l (v := p0.toInt64) hx hb dX7_isMask_1 rfl ?_
  refine lv_lconst (v := 0) hx hb dX7_isMask_2 (by decide +kernel) ?_
  refine lv_aload_n hx hb dX7_isMask_3 rfl (lv_at hl 0 rfl) ?_
  refine va_get (D := (dC, dI)) (ci := 7) (v := .ref mnw) (C := RX7) (T := TX7) (N := 26) hx hb hts inX7 hown hK hP 0 rfl rfl 0 (by decide) (hts _ pq1115) (fun _ h9 => h9) rfl dX7_isMask_4 ?_
  refine lv_iconst (v := 0) hx hb dX7_isMask_7 (by decide +kernel) ?_
  refine va_iald hx hb hK hP 1 0 rfl rfl (in_d (by decide +kernel)) dX7_isMask_8 ?_
  refine lv_topi (fun z1 ez1 => ?_)
  obtain rfl : z1 = 0 := ez1.trans (by decide +kernel)
  refine lv_iconst (v := 1) hx hb dX7_isMask_9 (by decide +kernel) ?_
  refine lv_isub hx hb dX7_isMask_10 ?_
  refine lv_topi (fun z2 ez2 => ?_)
  obtain rfl : z2 = (-1) := ez2.trans (by decide +kernel)
  refine lv_i2l (v := (-1)) hx hb dX7_isMask_11 (by decide +kernel) ?_
  have hPc := hP.sub (ws' := []) [] rfl
  have hDc := hD.sub (ws' := []) [] (by decide) rfl
  have hKc := hK.sub (tys' := []) [] rfl
  refine ro_i (va_runS (As := [.long p0.toInt64, .long 0, .long (-1)]) (rest := []) ⟨hx, hb, hml, hown, hts⟩ (c_X7_in l dC dI  H.size p0.toInt64 0 (-1) ) (va_cwS 3 hts (gS pq1234 pq1235 pq81 pq1236) rfl rfl rfl (by decide +kernel) ⟨(Nat.le_of_ble_eq_true rfl), (Nat.le_of_ble_eq_true rfl)⟩) (pc_S hPc hDc hKc hN) rfl rfl hl.1 rfl (lv_room (Nat.le_of_ble_eq_true rfl)) dX7_isMask_12 ⟨(Nat.le_of_ble_eq_true rfl), (Nat.le_of_ble_eq_true rfl)⟩) hS hP (fun r3 H locs hr3 hP hS => ?_)
  obtain rfl : r3 = 0 := hr3.trans (if_pos (in_neg _))
  exact W.zret (v := 0) hx hb hr (by decide +kernel) (fun t ht hW => ⟨⟨0, (), rfl, rfl, trivial⟩, hS.F ht⟩) hS.2.2 dX7_isMask_15

set_option maxHeartbeats 4000000 in
set_option maxRecDepth 100000 in
theorem c_X7_isBody (l : Launch) (dC : Nat → ClassId) (dI : Nat → Nat → Nat) (h0 mnw mhd mas mps msf mdt mhdd masd mpsd msfd mkp mtp mld mmd men mil mqu mbx : Nat) (kI : ClassId) (sz : Nat) (p0 : Int32) : Met l yX7_isBody (.code yX7_isBody cX7_isBody 2 (some .boolean) :: pw) ({ frames := 1, cells := 0, slots := 0, locals := 25 }) (pc (dC, dI) [.ref h0, .int p0] sz [(h0, .inr (7, [.ref mnw, .ref mhd, .ref mas, .ref mps, .ref msf, .ref mdt, .ref mhdd, .ref masd, .ref mpsd, .ref msfd, .ref mkp, .int 0, .ref mtp, .int 0, .int 0, .int 0, .int 0, .ref mld, .int 0, .ref mmd, .ref men, .ref mil, .ref mqu, .int 0, .int 0, .ref mbx])), (mnw, .inl (kI, 99, .inl (fun _ => 0)))] [(kI, .int)]) (va_Qi (fun (r : Int32) (_ : Unit) => r = 0) (fun _ _ => True) (fun _ => False)) 0 0 (fun _ => False) := by
  refine Met.ofW (cc := cX7_isBody) (maxL := 2) (ret := (some .boolean)) (by decide +kernel) rfl ?_
  intro p e s m args below meth c s₁ B hml hv
  obtain ⟨rfl, hsz, hP, hK, hD0, hN⟩ := hv
  have hx := B.exec
  have hb := B.bytes
  have hr := B.returns
  have hts := fun w (h : w ∈ pw) => atoms_spec (ws := Cond.code yX7_isBody cX7_isBody 2 (some .boolean) :: pw) B.pre w (List.mem_cons_of_mem _ h)
  have hown : s.vm.findClass RX7 = some m.cls := findClass_of_methodNamed B.named
  have hlocks := B.notSynchronized
  subst hsz
  have hD := hD0
  obtain ⟨H, hHe⟩ : ∃ H : Heap, H = s.heap := ⟨_, rfl⟩
  have hS : va_S (fun _ => False) s.heap H [] := by rw [hHe]; exact va_S.rf
  rw [← hHe] at hP
  have hl := lv_entry ([.ref h0, .int p0]) (n := 2) (Nat.le_of_ble_eq_true rfl)
  rw [lg_entry_eq]
  generalize (lg_sl ([.ref h0, .int p0]) ++ List.replicate (2 - (lg_sl ([.ref h0, .int p0])).length) Slot.unset).toArray = ls at hl ⊢
  have hl : lv_has ls 2 [(0, .ref h0), (1, .int p0)] := hl
  rw [← hHe]
  refine lv_iload_n hx hb dX7_isBody_0 rfl (lv_at hl 1 rfl) ?_
  refine lv_i2l (v := p0.toInt64) hx hb dX7_isBody_1 rfl ?_
  refine lv_lconst (v := 0) hx hb dX7_isBody_2 (by decide +kernel) ?_
  refine lv_aload_n hx hb dX7_isBody_3 rfl (lv_at hl 0 rfl) ?_
  refine va_get (D := (dC, dI)) (ci := 7) (v := .ref mnw) (C := RX7) (T := TX7) (N := 26) hx hb hts inX7 hown hK hP 0 rfl rfl 0 (by decide) (hts _ pq1115) (fun _ h9 => h9) rfl dX7_isBody_4 ?_
  refine lv_iconst (v := 1) hx hb dX7_isBody_7 (by decide +kernel) ?_
  refine va_iald hx hb hK hP 1 0 rfl rfl (in_d (by decide +kernel)) dX7_isBody_8 ?_
  refine lv_topi (fun z1 ez1 => ?_)
  obtain rfl : z1 = 0 := ez1.trans (by decide +kernel)
  refine lv_iconst (v := 1) hx hb dX7_isBody_9 (by decide +kernel) ?_
  refine lv_isub hx hb dX7_isBody_10 ?_
  refine lv_topi (fun z2 ez2 => ?_)
  obtain rfl : z2 = (-1) := ez2.trans (by decide +kernel)
  refine lv_i2l (v := (-1)) hx hb dX7_isBody_11 (by decide +kernel) ?_
  have hPc := hP.sub (ws' := []) [] rfl
  have hDc := hD.sub (ws' := []) [] (by decide) rfl
  have hKc := hK.sub (tys' := []) [] rfl
  refine ro_i (va_runS (As := [.long p0.toInt64, .long 0, .long (-1)]) (rest := []) ⟨hx, hb, hml, hown, hts⟩ (c_X7_in l dC dI  H.size p0.toInt64 0 (-1) ) (va_cwS 3 hts (gS pq1234 pq1235 pq81 pq1236) rfl rfl rfl (by decide +kernel) ⟨(Nat.le_of_ble_eq_true rfl), (Nat.le_of_ble_eq_true rfl)⟩) (pc_S hPc hDc hKc hN) rfl rfl hl.1 rfl (lv_room (Nat.le_of_ble_eq_true rfl)) dX7_isBody_12 ⟨(Nat.le_of_ble_eq_true rfl), (Nat.le_of_ble_eq_true rfl)⟩) hS hP (fun r3 H locs hr3 hP hS => ?_)
  obtain rfl : r3 = 0 := hr3.trans (if_pos (in_neg _))
  exact W.zret (v := 0) hx hb hr (by decide +kernel) (fun t ht hW => ⟨⟨0, (), rfl, rfl, trivial⟩, hS.F ht⟩) hS.2.2 dX7_isBody_15

set_option maxHeartbeats 4000000 in
set_option maxRecDepth 100000 in
theorem c_X7_areTwo (l : Launch) (dC : Nat → ClassId) (dI : Nat → Nat → Nat) (h0 mnw mhd mas mps msf mdt mhdd masd mpsd msfd mkp mtp mld mmd men mil mqu mbx : Nat) (kI : ClassId) (sz : Nat) (p0 : Int32) (p1 : Int32) : Met l yX7_areTwo (.code yX7_areTwo cX7_areTwo 3 (some .boolean) :: pw) ({ frames := 2, cells := 0, slots := 0, locals := 46 }) (pc (dC, dI) [.ref h0, .int p0, .int p1] sz [(h0, .inr (7, [.ref mnw, .ref mhd, .ref mas, .ref mps, .ref msf, .ref mdt, .ref mhdd, .ref masd, .ref mpsd, .ref msfd, .ref mkp, .int 0, .ref mtp, .int 0, .int 0, .int 0, .int 0, .ref mld, .int 0, .ref mmd, .ref men, .ref mil, .ref mqu, .int 0, .int 0, .ref mbx])), (mnw, .inl (kI, 99, .inl (fun _ => 0)))] [(kI, .int)]) (va_Qi (fun (r : Int32) (_ : Unit) => r = 0) (fun _ _ => True) (fun _ => False)) 0 0 (fun _ => False) := by
  refine Met.ofW (cc := cX7_areTwo) (maxL := 3) (ret := (some .boolean)) (by decide +kernel) rfl ?_
  intro p e s m args below meth c s₁ B hml hv
  obtain ⟨rfl, hsz, hP, hK, hD0, hN⟩ := hv
  have hx := B.exec
  have hb := B.bytes
  have hr := B.returns
  have hts := fun w (h : w ∈ pw) => atoms_spec (ws := Cond.code yX7_areTwo cX7_areTwo 3 (some .boolean) :: pw) B.pre w (List.mem_cons_of_mem _ h)
  have hown : s.vm.findClass RX7 = some m.cls := findClass_of_methodNamed B.named
  have hlocks := B.notSynchronized
  subst hsz
  have hD := hD0
  obtain ⟨H, hHe⟩ : ∃ H : Heap, H = s.heap := ⟨_, rfl⟩
  have hS : va_S (fun _ => False) s.heap H [] := by rw [hHe]; exact va_S.rf
  rw [← hHe] at hP
  have hl := lv_entry ([.ref h0, .int p0, .int p1]) (n := 3) (Nat.le_of_ble_eq_true rfl)
  rw [lg_entry_eq]
  generalize (lg_sl ([.ref h0, .int p0, .int p1]) ++ List.replicate (3 - (lg_sl ([.ref h0, .int p0, .int p1])).length) Slot.unset).toArray = ls at hl ⊢
  have hl : lv_has ls 3 [(0, .ref h0), (1, .int p0), (2, .int p1)] := hl
  rw [← hHe]
  refine lv_aload_n hx hb dX7_areTwo_0 rfl (lv_at hl 0 rfl) ?_
  refine lv_iload_n hx hb dX7_areTwo_1 rfl (lv_at hl 1 rfl) ?_
  have hPc := hP.sub (ws' := [(h0, .inr (7, [.ref mnw, .ref mhd, .ref mas, .ref mps, .ref msf, .ref mdt, .ref mhdd, .ref masd, .ref mpsd, .ref msfd, .ref mkp, .int 0, .ref mtp, .int 0, .int 0, .int 0, .int 0, .ref mld, .int 0, .ref mmd, .ref men, .ref mil, .ref mqu, .int 0, .int 0, .ref mbx])), (mnw, .inl (kI, 99, .inl (fun _ => 0)))]) [0, 1] rfl
  have hDc := hD.sub (ws' := [(h0, .inr (7, [.ref mnw, .ref mhd, .ref mas, .ref mps, .ref msf, .ref mdt, .ref mhdd, .ref masd, .ref mpsd, .ref msfd, .ref mkp, .int 0, .ref mtp, .int 0, .int 0, .int 0, .int 0, .ref mld, .int 0, .ref mmd, .ref men, .ref mil, .ref mqu, .int 0, .int 0, .ref mbx])), (mnw, .inl (kI, 99, .inl (fun _ => 0)))]) [0, 1] (by decide) rfl
  have hKc := hK.sub (tys' := [(kI, .int)]) [0] rfl
  refine ro_i (va_runV (As := [.int p0]) (rest := []) ⟨hx, hb, hml, hown, hts⟩ (c_X7_isBody l dC dI h0 mnw mhd mas mps msf mdt mhdd masd mpsd msfd mkp mtp mld mmd men mil mqu mbx kI H.size p0 ) (cwV 1 hts (gV pq1310 pq1312 pq23 pq81 pq1313) rfl rfl rfl (by decide +kernel) ⟨(Nat.le_of_ble_eq_true rfl), (Nat.le_of_ble_eq_true rfl)⟩) (pc_V hPc hDc hKc hN (va_recv hK hP (ci := 7) (q0 := 0) rfl rfl)) rfl rfl hl.1 rfl (lv_room (Nat.le_of_ble_eq_true rfl)) dX7_areTwo_2 ⟨(Nat.le_of_ble_eq_true rfl), (Nat.le_of_ble_eq_true rfl)⟩) hS hP (fun r1 H locs hr1 hP hS => ?_)
  subst hr1
  refine lv_if_eq (tgt := 25) hx hb dX7_areTwo_5 (by decide) (fun c2 => ?_) (fun c2 => absurd (by decide +kernel) c2)
  refine lv_iconst (v := 0) hx hb dX7_areTwo_25 (by decide +kernel) ?_
  exact W.zret (v := 0) hx hb hr (by decide +kernel) (fun t ht hW => ⟨⟨0, (), rfl, rfl, trivial⟩, hS.F ht⟩) hS.2.2 dX7_areTwo_26

set_option maxHeartbeats 4000000 in
set_option maxRecDepth 100000 in
theorem c_X7_changes (l : Launch) (dC : Nat → ClassId) (dI : Nat → Nat → Nat) (h0 mnw mhd mas mps msf mdt mhdd masd mpsd msfd mkp mtp mld mmd men mil mqu mbx : Nat) (kI : ClassId) (sz : Nat) (p0 : Int32) (p1 : Int32) : Met l yX7_changes (.code yX7_changes cX7_changes 8 (some .int) :: pw) ({ frames := 2, cells := 0, slots := 0, locals := 46 }) (pc (dC, dI) [.ref h0, .int p0, .int p1] sz [(h0, .inr (7, [.ref mnw, .ref mhd, .ref mas, .ref mps, .ref msf, .ref mdt, .ref mhdd, .ref masd, .ref mpsd, .ref msfd, .ref mkp, .int 0, .ref mtp, .int 0, .int 0, .int 0, .int 0, .ref mld, .int 0, .ref mmd, .ref men, .ref mil, .ref mqu, .int 0, .int 0, .ref mbx])), (mnw, .inl (kI, 99, .inl (fun _ => 0)))] [(kI, .int)]) (va_Qi (fun (r : Int32) (_ : Unit) => r = (-1)) (fun _ _ => True) (fun _ => False)) 0 0 (fun _ => False) := by
  refine Met.ofW (cc := cX7_changes) (maxL := 8) (ret := (some .int)) (by decide +kernel) rfl ?_
  intro p e s m args below meth c s₁ B hml hv
  obtain ⟨rfl, hsz, hP, hK, hD0, hN⟩ := hv
  have hx := B.exec
  have hb := B.bytes
  have hr := B.returns
  have hts := fun w (h : w ∈ pw) => atoms_spec (ws := Cond.code yX7_changes cX7_changes 8 (some .int) :: pw) B.pre w (List.mem_cons_of_mem _ h)
  have hown : s.vm.findClass RX7 = some m.cls := findClass_of_methodNamed B.named
  have hlocks := B.notSynchronized
  subst hsz
  have hD := hD0
  obtain ⟨H, hHe⟩ : ∃ H : Heap, H = s.heap := ⟨_, rfl⟩
  have hS : va_S (fun _ => False) s.heap H [] := by rw [hHe]; exact va_S.rf
  rw [← hHe] at hP
  have hl := lv_entry ([.ref h0, .int p0, .int p1]) (n := 8) (Nat.le_of_ble_eq_true rfl)
  rw [lg_entry_eq]
  generalize (lg_sl ([.ref h0, .int p0, .int p1]) ++ List.replicate (8 - (lg_sl ([.ref h0, .int p0, .int p1])).length) Slot.unset).toArray = ls at hl ⊢
  have hl : lv_has ls 8 [(0, .ref h0), (1, .int p0), (2, .int p1)] := hl
  rw [← hHe]
  refine lv_aload_n hx hb dX7_changes_0 rfl (lv_at hl 0 rfl) ?_
  refine lv_iload_n hx hb dX7_changes_1 rfl (lv_at hl 1 rfl) ?_
  have hPc := hP.sub (ws' := [(h0, .inr (7, [.ref mnw, .ref mhd, .ref mas, .ref mps, .ref msf, .ref mdt, .ref mhdd, .ref masd, .ref mpsd, .ref msfd, .ref mkp, .int 0, .ref mtp, .int 0, .int 0, .int 0, .int 0, .ref mld, .int 0, .ref mmd, .ref men, .ref mil, .ref mqu, .int 0, .int 0, .ref mbx])), (mnw, .inl (kI, 99, .inl (fun _ => 0)))]) [0, 1] rfl
  have hDc := hD.sub (ws' := [(h0, .inr (7, [.ref mnw, .ref mhd, .ref mas, .ref mps, .ref msf, .ref mdt, .ref mhdd, .ref masd, .ref mpsd, .ref msfd, .ref mkp, .int 0, .ref mtp, .int 0, .int 0, .int 0, .int 0, .ref mld, .int 0, .ref mmd, .ref men, .ref mil, .ref mqu, .int 0, .int 0, .ref mbx])), (mnw, .inl (kI, 99, .inl (fun _ => 0)))]) [0, 1] (by decide) rfl
  have hKc := hK.sub (tys' := [(kI, .int)]) [0] rfl
  refine ro_i (va_runV (As := [.int p0]) (rest := []) ⟨hx, hb, hml, hown, hts⟩ (c_X7_isMask l dC dI h0 mnw mhd mas mps msf mdt mhdd masd mpsd msfd mkp mtp mld mmd men mil mqu mbx kI H.size p0 ) (cwV 1 hts (gV pq1364 pq1366 pq31 pq81 pq1367) rfl rfl rfl (by decide +kernel) ⟨(Nat.le_of_ble_eq_true rfl), (Nat.le_of_ble_eq_true rfl)⟩) (pc_V hPc hDc hKc hN (va_recv hK hP (ci := 7) (q0 := 0) rfl rfl)) rfl rfl hl.1 rfl (lv_room (Nat.le_of_ble_eq_true rfl)) dX7_changes_2 ⟨(Nat.le_of_ble_eq_true rfl), (Nat.le_of_ble_eq_true rfl)⟩) hS hP (fun r1 H locs hr1 hP hS => ?_)
  subst hr1
  refine lv_if_ne (tgt := 10) hx hb dX7_changes_5 (by decide) (fun c2 => absurd (by decide +kernel) c2) (fun c2 => ?_)
  refine lv_iconst (v := (-1)) hx hb dX7_changes_8 (by decide +kernel) ?_
  exact W.iret (v := (-1)) hx hb hr (fun t ht hW => ⟨⟨(-1), (), rfl, rfl, trivial⟩, hS.F ht⟩) hS.2.2 dX7_changes_9

set_option maxHeartbeats 4000000 in
set_option maxRecDepth 100000 in
theorem c_X7_place (l : Launch) (dC : Nat → ClassId) (dI : Nat → Nat → Nat) (h0 mnw mhd mas mps msf mdt mhdd masd mpsd msfd mkp mtp mld mmd men mil mqu mbx : Nat) (kI : ClassId) (sz : Nat) (p0 : Int32) (p1 : Int32) (p2 : Int32) : Met l yX7_place (.code yX7_place cX7_place 4 (some .int) :: pw) ({ frames := 2, cells := 0, slots := 0, locals := 46 }) (pc (dC, dI) [.ref h0, .int p0, .int p1, .int p2] sz [(h0, .inr (7, [.ref mnw, .ref mhd, .ref mas, .ref mps, .ref msf, .ref mdt, .ref mhdd, .ref masd, .ref mpsd, .ref msfd, .ref mkp, .int 0, .ref mtp, .int 0, .int 0, .int 0, .int 0, .ref mld, .int 0, .ref mmd, .ref men, .ref mil, .ref mqu, .int 0, .int 0, .ref mbx])), (mnw, .inl (kI, 99, .inl (fun _ => 0)))] [(kI, .int)]) (va_Qi (fun (r : Int32) (_ : Unit) => r = (-1)) (fun _ _ => True) (fun _ => False)) 0 0 (fun _ => False) := by
  refine Met.ofW (cc := cX7_place) (maxL := 4) (ret := (some .int)) (by decide +kernel) rfl ?_
  intro p e s m args below meth c s₁ B hml hv
  obtain ⟨rfl, hsz, hP, hK, hD0, hN⟩ := hv
  have hx := B.exec
  have hb := B.bytes
  have hr := B.returns
  have hts := fun w (h : w ∈ pw) => atoms_spec (ws := Cond.code yX7_place cX7_place 4 (some .int) :: pw) B.pre w (List.mem_cons_of_mem _ h)
  have hown : s.vm.findClass RX7 = some m.cls := findClass_of_methodNamed B.named
  have hlocks := B.notSynchronized
  subst hsz
  have hD := hD0
  obtain ⟨H, hHe⟩ : ∃ H : Heap, H = s.heap := ⟨_, rfl⟩
  have hS : va_S (fun _ => False) s.heap H [] := by rw [hHe]; exact va_S.rf
  rw [← hHe] at hP
  have hl := lv_entry ([.ref h0, .int p0, .int p1, .int p2]) (n := 4) (Nat.le_of_ble_eq_true rfl)
  rw [lg_entry_eq]
  generalize (lg_sl ([.ref h0, .int p0, .int p1, .int p2]) ++ List.replicate (4 - (lg_sl ([.ref h0, .int p0, .int p1, .int p2])).length) Slot.unset).toArray = ls at hl ⊢
  have hl : lv_has ls 4 [(0, .ref h0), (1, .int p0), (2, .int p1), (3, .int p2)] := hl
  rw [← hHe]
  refine lv_aload_n hx hb dX7_place_0 rfl (lv_at hl 0 rfl) ?_
  refine lv_iload_n hx hb dX7_place_1 rfl (lv_at hl 1 rfl) ?_
  have hPc := hP.sub (ws' := [(h0, .inr (7, [.ref mnw, .ref mhd, .ref mas, .ref mps, .ref msf, .ref mdt, .ref mhdd, .ref masd, .ref mpsd, .ref msfd, .ref mkp, .int 0, .ref mtp, .int 0, .int 0, .int 0, .int 0, .ref mld, .int 0, .ref mmd, .ref men, .ref mil, .ref mqu, .int 0, .int 0, .ref mbx])), (mnw, .inl (kI, 99, .inl (fun _ => 0)))]) [0, 1] rfl
  have hDc := hD.sub (ws' := [(h0, .inr (7, [.ref mnw, .ref mhd, .ref mas, .ref mps, .ref msf, .ref mdt, .ref mhdd, .ref masd, .ref mpsd, .ref msfd, .ref mkp, .int 0, .ref mtp, .int 0, .int 0, .int 0, .int 0, .ref mld, .int 0, .ref mmd, .ref men, .ref mil, .ref mqu, .int 0, .int 0, .ref mbx])), (mnw, .inl (kI, 99, .inl (fun _ => 0)))]) [0, 1] (by decide) rfl
  have hKc := hK.sub (tys' := [(kI, .int)]) [0] rfl
  refine ro_i (va_runV (As := [.int p0]) (rest := []) ⟨hx, hb, hml, hown, hts⟩ (c_X7_isBody l dC dI h0 mnw mhd mas mps msf mdt mhdd masd mpsd msfd mkp mtp mld mmd men mil mqu mbx kI H.size p0 ) (cwV 1 hts (gV pq1310 pq1312 pq23 pq81 pq1313) rfl rfl rfl (by decide +kernel) ⟨(Nat.le_of_ble_eq_true rfl), (Nat.le_of_ble_eq_true rfl)⟩) (pc_V hPc hDc hKc hN (va_recv hK hP (ci := 7) (q0 := 0) rfl rfl)) rfl rfl hl.1 rfl (lv_room (Nat.le_of_ble_eq_true rfl)) dX7_place_2 ⟨(Nat.le_of_ble_eq_true rfl), (Nat.le_of_ble_eq_true rfl)⟩) hS hP (fun r1 H locs hr1 hP hS => ?_)
  subst hr1
  refine lv_if_eq (tgt := 17) hx hb dX7_place_5 (by decide) (fun c2 => ?_) (fun c2 => absurd (by decide +kernel) c2)
  refine lv_iconst (v := (-1)) hx hb dX7_place_17 (by decide +kernel) ?_
  exact W.iret (v := (-1)) hx hb hr (fun t ht hW => ⟨⟨(-1), (), rfl, rfl, trivial⟩, hS.F ht⟩) hS.2.2 dX7_place_18

set_option maxHeartbeats 4000000 in
set_option maxRecDepth 100000 in
theorem c_X7_flip (l : Launch) (dC : Nat → ClassId) (dI : Nat → Nat → Nat) (h0 mnw mhd mas mps msf mdt mhdd masd mpsd msfd mkp mtp mld mmd men mil mqu mbx : Nat) (kI : ClassId) (sz : Nat) (p0 : Int32) (p1 : Int32) : Met l yX7_flip (.code yX7_flip cX7_flip 4 (some .int) :: pw) ({ frames := 2, cells := 0, slots := 0, locals := 46 }) (pc (dC, dI) [.ref h0, .int p0, .int p1] sz [(h0, .inr (7, [.ref mnw, .ref mhd, .ref mas, .ref mps, .ref msf, .ref mdt, .ref mhdd, .ref masd, .ref mpsd, .ref msfd, .ref mkp, .int 0, .ref mtp, .int 0, .int 0, .int 0, .int 0, .ref mld, .int 0, .ref mmd, .ref men, .ref mil, .ref mqu, .int 0, .int 0, .ref mbx])), (mnw, .inl (kI, 99, .inl (fun _ => 0)))] [(kI, .int)]) (va_Qi (fun (r : Int32) (_ : Unit) => r = (-1)) (fun _ _ => True) (fun _ => False)) 0 0 (fun _ => False) := by
  refine Met.ofW (cc := cX7_flip) (maxL := 4) (ret := (some .int)) (by decide +kernel) rfl ?_
  intro p e s m args below meth c s₁ B hml hv
  obtain ⟨rfl, hsz, hP, hK, hD0, hN⟩ := hv
  have hx := B.exec
  have hb := B.bytes
  have hr := B.returns
  have hts := fun w (h : w ∈ pw) => atoms_spec (ws := Cond.code yX7_flip cX7_flip 4 (some .int) :: pw) B.pre w (List.mem_cons_of_mem _ h)
  have hown : s.vm.findClass RX7 = some m.cls := findClass_of_methodNamed B.named
  have hlocks := B.notSynchronized
  subst hsz
  have hD := hD0
  obtain ⟨H, hHe⟩ : ∃ H : Heap, H = s.heap := ⟨_, rfl⟩
  have hS : va_S (fun _ => False) s.heap H [] := by rw [hHe]; exact va_S.rf
  rw [← hHe] at hP
  have hl := lv_entry ([.ref h0, .int p0, .int p1]) (n := 4) (Nat.le_of_ble_eq_true rfl)
  rw [lg_entry_eq]
  generalize (lg_sl ([.ref h0, .int p0, .int p1]) ++ List.replicate (4 - (lg_sl ([.ref h0, .int p0, .int p1])).length) Slot.unset).toArray = ls at hl ⊢
  have hl : lv_has ls 4 [(0, .ref h0), (1, .int p0), (2, .int p1)] := hl
  rw [← hHe]
  refine lv_aload_n hx hb dX7_flip_0 rfl (lv_at hl 0 rfl) ?_
  refine lv_iload_n hx hb dX7_flip_1 rfl (lv_at hl 1 rfl) ?_
  have hPc := hP.sub (ws' := [(h0, .inr (7, [.ref mnw, .ref mhd, .ref mas, .ref mps, .ref msf, .ref mdt, .ref mhdd, .ref masd, .ref mpsd, .ref msfd, .ref mkp, .int 0, .ref mtp, .int 0, .int 0, .int 0, .int 0, .ref mld, .int 0, .ref mmd, .ref men, .ref mil, .ref mqu, .int 0, .int 0, .ref mbx])), (mnw, .inl (kI, 99, .inl (fun _ => 0)))]) [0, 1] rfl
  have hDc := hD.sub (ws' := [(h0, .inr (7, [.ref mnw, .ref mhd, .ref mas, .ref mps, .ref msf, .ref mdt, .ref mhdd, .ref masd, .ref mpsd, .ref msfd, .ref mkp, .int 0, .ref mtp, .int 0, .int 0, .int 0, .int 0, .ref mld, .int 0, .ref mmd, .ref men, .ref mil, .ref mqu, .int 0, .int 0, .ref mbx])), (mnw, .inl (kI, 99, .inl (fun _ => 0)))]) [0, 1] (by decide) rfl
  have hKc := hK.sub (tys' := [(kI, .int)]) [0] rfl
  refine ro_i (va_runV (As := [.int p0]) (rest := []) ⟨hx, hb, hml, hown, hts⟩ (c_X7_isBody l dC dI h0 mnw mhd mas mps msf mdt mhdd masd mpsd msfd mkp mtp mld mmd men mil mqu mbx kI H.size p0 ) (cwV 1 hts (gV pq1310 pq1312 pq23 pq81 pq1313) rfl rfl rfl (by decide +kernel) ⟨(Nat.le_of_ble_eq_true rfl), (Nat.le_of_ble_eq_true rfl)⟩) (pc_V hPc hDc hKc hN (va_recv hK hP (ci := 7) (q0 := 0) rfl rfl)) rfl rfl hl.1 rfl (lv_room (Nat.le_of_ble_eq_true rfl)) dX7_flip_2 ⟨(Nat.le_of_ble_eq_true rfl), (Nat.le_of_ble_eq_true rfl)⟩) hS hP (fun r1 H locs hr1 hP hS => ?_)
  subst hr1
  refine lv_if_eq (tgt := 20) hx hb dX7_flip_5 (by decide) (fun c2 => ?_) (fun c2 => absurd (by decide +kernel) c2)
  refine lv_iconst (v := (-1)) hx hb dX7_flip_20 (by decide +kernel) ?_
  exact W.iret (v := (-1)) hx hb hr (fun t ht hW => ⟨⟨(-1), (), rfl, rfl, trivial⟩, hS.F ht⟩) hS.2.2 dX7_flip_21

set_option maxHeartbeats 4000000 in
set_option maxRecDepth 100000 in
theorem c_X7_layers (l : Launch) (dC : Nat → ClassId) (dI : Nat → Nat → Nat) (h0 mnw mhd mas mps msf mdt mhdd masd mpsd msfd mkp mtp mld mmd men mil mqu mbx : Nat) (kI : ClassId) (sz : Nat) (p0 : Int32) (p1 : Int32) (p2 : Int32) : Met l yX7_layers (.code yX7_layers cX7_layers 4 (some .int) :: pw) ({ frames := 2, cells := 0, slots := 0, locals := 46 }) (pc (dC, dI) [.ref h0, .int p0, .int p1, .int p2] sz [(h0, .inr (7, [.ref mnw, .ref mhd, .ref mas, .ref mps, .ref msf, .ref mdt, .ref mhdd, .ref masd, .ref mpsd, .ref msfd, .ref mkp, .int 0, .ref mtp, .int 0, .int 0, .int 0, .int 0, .ref mld, .int 0, .ref mmd, .ref men, .ref mil, .ref mqu, .int 0, .int 0, .ref mbx])), (mnw, .inl (kI, 99, .inl (fun _ => 0)))] [(kI, .int)]) (va_Qi (fun (r : Int32) (_ : Unit) => r = (-1)) (fun _ _ => True) (fun _ => False)) 0 0 (fun _ => False) := by
  refine Met.ofW (cc := cX7_layers) (maxL := 4) (ret := (some .int)) (by decide +kernel) rfl ?_
  intro p e s m args below meth c s₁ B hml hv
  obtain ⟨rfl, hsz, hP, hK, hD0, hN⟩ := hv
  have hx := B.exec
  have hb := B.bytes
  have hr := B.returns
  have hts := fun w (h : w ∈ pw) => atoms_spec (ws := Cond.code yX7_layers cX7_layers 4 (some .int) :: pw) B.pre w (List.mem_cons_of_mem _ h)
  have hown : s.vm.findClass RX7 = some m.cls := findClass_of_methodNamed B.named
  have hlocks := B.notSynchronized
  subst hsz
  have hD := hD0
  obtain ⟨H, hHe⟩ : ∃ H : Heap, H = s.heap := ⟨_, rfl⟩
  have hS : va_S (fun _ => False) s.heap H [] := by rw [hHe]; exact va_S.rf
  rw [← hHe] at hP
  have hl := lv_entry ([.ref h0, .int p0, .int p1, .int p2]) (n := 4) (Nat.le_of_ble_eq_true rfl)
  rw [lg_entry_eq]
  generalize (lg_sl ([.ref h0, .int p0, .int p1, .int p2]) ++ List.replicate (4 - (lg_sl ([.ref h0, .int p0, .int p1, .int p2])).length) Slot.unset).toArray = ls at hl ⊢
  have hl : lv_has ls 4 [(0, .ref h0), (1, .int p0), (2, .int p1), (3, .int p2)] := hl
  rw [← hHe]
  refine lv_aload_n hx hb dX7_layers_0 rfl (lv_at hl 0 rfl) ?_
  refine lv_iload_n hx hb dX7_layers_1 rfl (lv_at hl 1 rfl) ?_
  have hPc := hP.sub (ws' := [(h0, .inr (7, [.ref mnw, .ref mhd, .ref mas, .ref mps, .ref msf, .ref mdt, .ref mhdd, .ref masd, .ref mpsd, .ref msfd, .ref mkp, .int 0, .ref mtp, .int 0, .int 0, .int 0, .int 0, .ref mld, .int 0, .ref mmd, .ref men, .ref mil, .ref mqu, .int 0, .int 0, .ref mbx])), (mnw, .inl (kI, 99, .inl (fun _ => 0)))]) [0, 1] rfl
  have hDc := hD.sub (ws' := [(h0, .inr (7, [.ref mnw, .ref mhd, .ref mas, .ref mps, .ref msf, .ref mdt, .ref mhdd, .ref masd, .ref mpsd, .ref msfd, .ref mkp, .int 0, .ref mtp, .int 0, .int 0, .int 0, .int 0, .ref mld, .int 0, .ref mmd, .ref men, .ref mil, .ref mqu, .int 0, .int 0, .ref mbx])), (mnw, .inl (kI, 99, .inl (fun _ => 0)))]) [0, 1] (by decide) rfl
  have hKc := hK.sub (tys' := [(kI, .int)]) [0] rfl
  refine ro_i (va_runV (As := [.int p0]) (rest := []) ⟨hx, hb, hml, hown, hts⟩ (c_X7_isBody l dC dI h0 mnw mhd mas mps msf mdt mhdd masd mpsd msfd mkp mtp mld mmd men mil mqu mbx kI H.size p0 ) (cwV 1 hts (gV pq1310 pq1312 pq23 pq81 pq1313) rfl rfl rfl (by decide +kernel) ⟨(Nat.le_of_ble_eq_true rfl), (Nat.le_of_ble_eq_true rfl)⟩) (pc_V hPc hDc hKc hN (va_recv hK hP (ci := 7) (q0 := 0) rfl rfl)) rfl rfl hl.1 rfl (lv_room (Nat.le_of_ble_eq_true rfl)) dX7_layers_2 ⟨(Nat.le_of_ble_eq_true rfl), (Nat.le_of_ble_eq_true rfl)⟩) hS hP (fun r1 H locs hr1 hP hS => ?_)
  subst hr1
  refine lv_if_eq (tgt := 43) hx hb dX7_layers_5 (by decide) (fun c2 => ?_) (fun c2 => absurd (by decide +kernel) c2)
  refine lv_iconst (v := (-1)) hx hb dX7_layers_43 (by decide +kernel) ?_
  exact W.iret (v := (-1)) hx hb hr (fun t ht hW => ⟨⟨(-1), (), rfl, rfl, trivial⟩, hS.F ht⟩) hS.2.2 dX7_layers_44

set_option maxHeartbeats 4000000 in
set_option maxRecDepth 100000 in
theorem c_X7_speed (l : Launch) (dC : Nat → ClassId) (dI : Nat → Nat → Nat) (h0 mnw mhd mas mps msf mdt mhdd masd mpsd msfd mkp mtp mld mmd men mil mqu mbx : Nat) (kI : ClassId) (sz : Nat) (p0 : Int32) (p1 : Int32) (p2 : Int32) : Met l yX7_speed (.code yX7_speed cX7_speed 4 (some .int) :: pw) ({ frames := 2, cells := 0, slots := 0, locals := 46 }) (pc (dC, dI) [.ref h0, .int p0, .int p1, .int p2] sz [(h0, .inr (7, [.ref mnw, .ref mhd, .ref mas, .ref mps, .ref msf, .ref mdt, .ref mhdd, .ref masd, .ref mpsd, .ref msfd, .ref mkp, .int 0, .ref mtp, .int 0, .int 0, .int 0, .int 0, .ref mld, .int 0, .ref mmd, .ref men, .ref mil, .ref mqu, .int 0, .int 0, .ref mbx])), (mnw, .inl (kI, 99, .inl (fun _ => 0)))] [(kI, .int)]) (va_Qi (fun (r : Int32) (_ : Unit) => r = (-1)) (fun _ _ => True) (fun _ => False)) 0 0 (fun _ => False) := by
  refine Met.ofW (cc := cX7_speed) (maxL := 4) (ret := (some .int)) (by decide +kernel) rfl ?_
  intro p e s m args below meth c s₁ B hml hv
  obtain ⟨rfl, hsz, hP, hK, hD0, hN⟩ := hv
  have hx := B.exec
  have hb := B.bytes
  have hr := B.returns
  have hts := fun w (h : w ∈ pw) => atoms_spec (ws := Cond.code yX7_speed cX7_speed 4 (some .int) :: pw) B.pre w (List.mem_cons_of_mem _ h)
  have hown : s.vm.findClass RX7 = some m.cls := findClass_of_methodNamed B.named
  have hlocks := B.notSynchronized
  subst hsz
  have hD := hD0
  obtain ⟨H, hHe⟩ : ∃ H : Heap, H = s.heap := ⟨_, rfl⟩
  have hS : va_S (fun _ => False) s.heap H [] := by rw [hHe]; exact va_S.rf
  rw [← hHe] at hP
  have hl := lv_entry ([.ref h0, .int p0, .int p1, .int p2]) (n := 4) (Nat.le_of_ble_eq_true rfl)
  rw [lg_entry_eq]
  generalize (lg_sl ([.ref h0, .int p0, .int p1, .int p2]) ++ List.replicate (4 - (lg_sl ([.ref h0, .int p0, .int p1, .int p2])).length) Slot.unset).toArray = ls at hl ⊢
  have hl : lv_has ls 4 [(0, .ref h0), (1, .int p0), (2, .int p1), (3, .int p2)] := hl
  rw [← hHe]
  refine lv_aload_n hx hb dX7_speed_0 rfl (lv_at hl 0 rfl) ?_
  refine lv_iload_n hx hb dX7_speed_1 rfl (lv_at hl 1 rfl) ?_
  have hPc := hP.sub (ws' := [(h0, .inr (7, [.ref mnw, .ref mhd, .ref mas, .ref mps, .ref msf, .ref mdt, .ref mhdd, .ref masd, .ref mpsd, .ref msfd, .ref mkp, .int 0, .ref mtp, .int 0, .int 0, .int 0, .int 0, .ref mld, .int 0, .ref mmd, .ref men, .ref mil, .ref mqu, .int 0, .int 0, .ref mbx])), (mnw, .inl (kI, 99, .inl (fun _ => 0)))]) [0, 1] rfl
  have hDc := hD.sub (ws' := [(h0, .inr (7, [.ref mnw, .ref mhd, .ref mas, .ref mps, .ref msf, .ref mdt, .ref mhdd, .ref masd, .ref mpsd, .ref msfd, .ref mkp, .int 0, .ref mtp, .int 0, .int 0, .int 0, .int 0, .ref mld, .int 0, .ref mmd, .ref men, .ref mil, .ref mqu, .int 0, .int 0, .ref mbx])), (mnw, .inl (kI, 99, .inl (fun _ => 0)))]) [0, 1] (by decide) rfl
  have hKc := hK.sub (tys' := [(kI, .int)]) [0] rfl
  refine ro_i (va_runV (As := [.int p0]) (rest := []) ⟨hx, hb, hml, hown, hts⟩ (c_X7_isBody l dC dI h0 mnw mhd mas mps msf mdt mhdd masd mpsd msfd mkp mtp mld mmd men mil mqu mbx kI H.size p0 ) (cwV 1 hts (gV pq1310 pq1312 pq23 pq81 pq1313) rfl rfl rfl (by decide +kernel) ⟨(Nat.le_of_ble_eq_true rfl), (Nat.le_of_ble_eq_true rfl)⟩) (pc_V hPc hDc hKc hN (va_recv hK hP (ci := 7) (q0 := 0) rfl rfl)) rfl rfl hl.1 rfl (lv_room (Nat.le_of_ble_eq_true rfl)) dX7_speed_2 ⟨(Nat.le_of_ble_eq_true rfl), (Nat.le_of_ble_eq_true rfl)⟩) hS hP (fun r1 H locs hr1 hP hS => ?_)
  subst hr1
  refine lv_if_eq (tgt := 48) hx hb dX7_speed_5 (by decide) (fun c2 => ?_) (fun c2 => absurd (by decide +kernel) c2)
  refine lv_iconst (v := (-1)) hx hb dX7_speed_48 (by decide +kernel) ?_
  exact W.iret (v := (-1)) hx hb hr (fun t ht hW => ⟨⟨(-1), (), rfl, rfl, trivial⟩, hS.F ht⟩) hS.2.2 dX7_speed_49

set_option maxHeartbeats 4000000 in
set_option maxRecDepth 100000 in
theorem c_X7_turn (l : Launch) (dC : Nat → ClassId) (dI : Nat → Nat → Nat) (h0 mnw mhd mas mps msf mdt mhdd masd mpsd msfd mkp mtp mld mmd men mil mqu mbx : Nat) (kI : ClassId) (sz : Nat) (p0 : Int32) (p1 : Int32) (p2 : Int32) : Met l yX7_turn (.code yX7_turn cX7_turn 4 (some .int) :: pw) ({ frames := 2, cells := 0, slots := 0, locals := 46 }) (pc (dC, dI) [.ref h0, .int p0, .int p1, .int p2] sz [(h0, .inr (7, [.ref mnw, .ref mhd, .ref mas, .ref mps, .ref msf, .ref mdt, .ref mhdd, .ref masd, .ref mpsd, .ref msfd, .ref mkp, .int 0, .ref mtp, .int 0, .int 0, .int 0, .int 0, .ref mld, .int 0, .ref mmd, .ref men, .ref mil, .ref mqu, .int 0, .int 0, .ref mbx])), (mnw, .inl (kI, 99, .inl (fun _ => 0)))] [(kI, .int)]) (va_Qi (fun (r : Int32) (_ : Unit) => r = (-1)) (fun _ _ => True) (fun _ => False)) 0 0 (fun _ => False) := by
  refine Met.ofW (cc := cX7_turn) (maxL := 4) (ret := (some .int)) (by decide +kernel) rfl ?_
  intro p e s m args below meth c s₁ B hml hv
  obtain ⟨rfl, hsz, hP, hK, hD0, hN⟩ := hv
  have hx := B.exec
  have hb := B.bytes
  have hr := B.returns
  have hts := fun w (h : w ∈ pw) => atoms_spec (ws := Cond.code yX7_turn cX7_turn 4 (some .int) :: pw) B.pre w (List.mem_cons_of_mem _ h)
  have hown : s.vm.findClass RX7 = some m.cls := findClass_of_methodNamed B.named
  have hlocks := B.notSynchronized
  subst hsz
  have hD := hD0
  obtain ⟨H, hHe⟩ : ∃ H : Heap, H = s.heap := ⟨_, rfl⟩
  have hS : va_S (fun _ => False) s.heap H [] := by rw [hHe]; exact va_S.rf
  rw [← hHe] at hP
  have hl := lv_entry ([.ref h0, .int p0, .int p1, .int p2]) (n := 4) (Nat.le_of_ble_eq_true rfl)
  rw [lg_entry_eq]
  generalize (lg_sl ([.ref h0, .int p0, .int p1, .int p2]) ++ List.replicate (4 - (lg_sl ([.ref h0, .int p0, .int p1, .int p2])).length) Slot.unset).toArray = ls at hl ⊢
  have hl : lv_has ls 4 [(0, .ref h0), (1, .int p0), (2, .int p1), (3, .int p2)] := hl
  rw [← hHe]
  refine lv_aload_n hx hb dX7_turn_0 rfl (lv_at hl 0 rfl) ?_
  refine lv_iload_n hx hb dX7_turn_1 rfl (lv_at hl 1 rfl) ?_
  have hPc := hP.sub (ws' := [(h0, .inr (7, [.ref mnw, .ref mhd, .ref mas, .ref mps, .ref msf, .ref mdt, .ref mhdd, .ref masd, .ref mpsd, .ref msfd, .ref mkp, .int 0, .ref mtp, .int 0, .int 0, .int 0, .int 0, .ref mld, .int 0, .ref mmd, .ref men, .ref mil, .ref mqu, .int 0, .int 0, .ref mbx])), (mnw, .inl (kI, 99, .inl (fun _ => 0)))]) [0, 1] rfl
  have hDc := hD.sub (ws' := [(h0, .inr (7, [.ref mnw, .ref mhd, .ref mas, .ref mps, .ref msf, .ref mdt, .ref mhdd, .ref masd, .ref mpsd, .ref msfd, .ref mkp, .int 0, .ref mtp, .int 0, .int 0, .int 0, .int 0, .ref mld, .int 0, .ref mmd, .ref men, .ref mil, .ref mqu, .int 0, .int 0, .ref mbx])), (mnw, .inl (kI, 99, .inl (fun _ => 0)))]) [0, 1] (by decide) rfl
  have hKc := hK.sub (tys' := [(kI, .int)]) [0] rfl
  refine ro_i (va_runV (As := [.int p0]) (rest := []) ⟨hx, hb, hml, hown, hts⟩ (c_X7_isMask l dC dI h0 mnw mhd mas mps msf mdt mhdd masd mpsd msfd mkp mtp mld mmd men mil mqu mbx kI H.size p0 ) (cwV 1 hts (gV pq1364 pq1366 pq31 pq81 pq1367) rfl rfl rfl (by decide +kernel) ⟨(Nat.le_of_ble_eq_true rfl), (Nat.le_of_ble_eq_true rfl)⟩) (pc_V hPc hDc hKc hN (va_recv hK hP (ci := 7) (q0 := 0) rfl rfl)) rfl rfl hl.1 rfl (lv_room (Nat.le_of_ble_eq_true rfl)) dX7_turn_2 ⟨(Nat.le_of_ble_eq_true rfl), (Nat.le_of_ble_eq_true rfl)⟩) hS hP (fun r1 H locs hr1 hP hS => ?_)
  subst hr1
  refine lv_if_eq (tgt := 42) hx hb dX7_turn_5 (by decide) (fun c2 => ?_) (fun c2 => absurd (by decide +kernel) c2)
  refine lv_iconst (v := (-1)) hx hb dX7_turn_42 (by decide +kernel) ?_
  exact W.iret (v := (-1)) hx hb hr (fun t ht hW => ⟨⟨(-1), (), rfl, rfl, trivial⟩, hS.F ht⟩) hS.2.2 dX7_turn_43

set_option maxHeartbeats 4000000 in
set_option maxRecDepth 100000 in
theorem c_X7_grow (l : Launch) (dC : Nat → ClassId) (dI : Nat → Nat → Nat) (h0 mnw mhd mas mps msf mdt mhdd masd mpsd msfd mkp mtp mld mmd men mil mqu mbx : Nat) (kI : ClassId) (sz : Nat) (p0 : Int32) : Met l yX7_grow (.code yX7_grow cX7_grow 2 (some .int) :: pw) ({ frames := 3, cells := 0, slots := 0, locals := 73 }) (pc (dC, dI) [.ref h0, .int p0] sz [(h0, .inr (7, [.ref mnw, .ref mhd, .ref mas, .ref mps, .ref msf, .ref mdt, .ref mhdd, .ref masd, .ref mpsd, .ref msfd, .ref mkp, .int 0, .ref mtp, .int 0, .int 0, .int 0, .int 0, .ref mld, .int 0, .ref mmd, .ref men, .ref mil, .ref mqu, .int 0, .int 0, .ref mbx])), (mnw, .inl (kI, 99, .inl (fun _ => 0)))] [(kI, .int)]) (va_Qi (fun (r : Int32) (_ : Unit) => r = (-1)) (fun _ _ => True) (fun _ => False)) 0 0 (fun _ => False) := by
  refine Met.ofW (cc := cX7_grow) (maxL := 2) (ret := (some .int)) (by decide +kernel) rfl ?_
  intro p e s m args below meth c s₁ B hml hv
  obtain ⟨rfl, hsz, hP, hK, hD0, hN⟩ := hv
  have hx := B.exec
  have hb := B.bytes
  have hr := B.returns
  have hts := fun w (h : w ∈ pw) => atoms_spec (ws := Cond.code yX7_grow cX7_grow 2 (some .int) :: pw) B.pre w (List.mem_cons_of_mem _ h)
  have hown : s.vm.findClass RX7 = some m.cls := findClass_of_methodNamed B.named
  have hlocks := B.notSynchronized
  subst hsz
  have hD := hD0
  obtain ⟨H, hHe⟩ : ∃ H : Heap, H = s.heap := ⟨_, rfl⟩
  have hS : va_S (fun _ => False) s.heap H [] := by rw [hHe]; exact va_S.rf
  rw [← hHe] at hP
  have hl := lv_entry ([.ref h0, .int p0]) (n := 2) (Nat.le_of_ble_eq_true rfl)
  rw [lg_entry_eq]
  generalize (lg_sl ([.ref h0, .int p0]) ++ List.replicate (2 - (lg_sl ([.ref h0, .int p0])).length) Slot.unset).toArray = ls at hl ⊢
  have hl : lv_has ls 2 [(0, .ref h0), (1, .int p0)] := hl
  rw [← hHe]
  refine lv_aload_n hx hb dX7_grow_0 rfl (lv_at hl 0 rfl) ?_
  refine lv_iload_n hx hb dX7_grow_1 rfl (lv_at hl 1 rfl) ?_
  refine lv_iconst (v := 1) hx hb dX7_grow_2 (by decide +kernel) ?_
  have hPc := hP.sub (ws' := [(h0, .inr (7, [.ref mnw, .ref mhd, .ref mas, .ref mps, .ref msf, .ref mdt, .ref mhdd, .ref masd, .ref mpsd, .ref msfd, .ref mkp, .int 0, .ref mtp, .int 0, .int 0, .int 0, .int 0, .ref mld, .int 0, .ref mmd, .ref men, .ref mil, .ref mqu, .int 0, .int 0, .ref mbx])), (mnw, .inl (kI, 99, .inl (fun _ => 0)))]) [0, 1] rfl
  have hDc := hD.sub (ws' := [(h0, .inr (7, [.ref mnw, .ref mhd, .ref mas, .ref mps, .ref msf, .ref mdt, .ref mhdd, .ref masd, .ref mpsd, .ref msfd, .ref mkp, .int 0, .ref mtp, .int 0, .int 0, .int 0, .int 0, .ref mld, .int 0, .ref mmd, .ref men, .ref mil, .ref mqu, .int 0, .int 0, .ref mbx])), (mnw, .inl (kI, 99, .inl (fun _ => 0)))]) [0, 1] (by decide) rfl
  have hKc := hK.sub (tys' := [(kI, .int)]) [0] rfl
  refine ro_i (va_runV (As := [.int p0, .int 1]) (rest := []) ⟨hx, hb, hml, hown, hts⟩ (c_X7_changes l dC dI h0 mnw mhd mas mps msf mdt mhdd masd mpsd msfd mkp mtp mld mmd men mil mqu mbx kI H.size p0 1 ) (cwV 2 hts (gV pq1387 pq1389 pq35 pq81 pq1390) rfl rfl rfl (by decide +kernel) ⟨(Nat.le_of_ble_eq_true rfl), (Nat.le_of_ble_eq_true rfl)⟩) (pc_V hPc hDc hKc hN (va_recv hK hP (ci := 7) (q0 := 0) rfl rfl)) rfl rfl hl.1 rfl (lv_room (Nat.le_of_ble_eq_true rfl)) dX7_grow_3 ⟨(Nat.le_of_ble_eq_true rfl), (Nat.le_of_ble_eq_true rfl)⟩) hS hP (fun r1 H locs hr1 hP hS => ?_)
  subst hr1
  exact W.iret (v := (-1)) hx hb hr (fun t ht hW => ⟨⟨(-1), (), rfl, rfl, trivial⟩, hS.F ht⟩) hS.2.2 dX7_grow_6

set_option maxHeartbeats 4000000 in
set_option maxRecDepth 100000 in
theorem c_X7_thin (l : Launch) (dC : Nat → ClassId) (dI : Nat → Nat → Nat) (h0 mnw mhd mas mps msf mdt mhdd masd mpsd msfd mkp mtp mld mmd men mil mqu mbx : Nat) (kI : ClassId) (sz : Nat) (p0 : Int32) : Met l yX7_thin (.code yX7_thin cX7_thin 2 (some .int) :: pw) ({ frames := 3, cells := 0, slots := 0, locals := 73 }) (pc (dC, dI) [.ref h0, .int p0] sz [(h0, .inr (7, [.ref mnw, .ref mhd, .ref mas, .ref mps, .ref msf, .ref mdt, .ref mhdd, .ref masd, .ref mpsd, .ref msfd, .ref mkp, .int 0, .ref mtp, .int 0, .int 0, .int 0, .int 0, .ref mld, .int 0, .ref mmd, .ref men, .ref mil, .ref mqu, .int 0, .int 0, .ref mbx])), (mnw, .inl (kI, 99, .inl (fun _ => 0)))] [(kI, .int)]) (va_Qi (fun (r : Int32) (_ : Unit) => r = (-1)) (fun _ _ => True) (fun _ => False)) 0 0 (fun _ => False) := by
  refine Met.ofW (cc := cX7_thin) (maxL := 2) (ret := (some .int)) (by decide +kernel) rfl ?_
  intro p e s m args below meth c s₁ B hml hv
  obtain ⟨rfl, hsz, hP, hK, hD0, hN⟩ := hv
  have hx := B.exec
  have hb := B.bytes
  have hr := B.returns
  have hts := fun w (h : w ∈ pw) => atoms_spec (ws := Cond.code yX7_thin cX7_thin 2 (some .int) :: pw) B.pre w (List.mem_cons_of_mem _ h)
  have hown : s.vm.findClass RX7 = some m.cls := findClass_of_methodNamed B.named
  have hlocks := B.notSynchronized
  subst hsz
  have hD := hD0
  obtain ⟨H, hHe⟩ : ∃ H : Heap, H = s.heap := ⟨_, rfl⟩
  have hS : va_S (fun _ => False) s.heap H [] := by rw [hHe]; exact va_S.rf
  rw [← hHe] at hP
  have hl := lv_entry ([.ref h0, .int p0]) (n := 2) (Nat.le_of_ble_eq_true rfl)
  rw [lg_entry_eq]
  generalize (lg_sl ([.ref h0, .int p0]) ++ List.replicate (2 - (lg_sl ([.ref h0, .int p0])).length) Slot.unset).toArray = ls at hl ⊢
  have hl : lv_has ls 2 [(0, .ref h0), (1, .int p0)] := hl
  rw [← hHe]
  refine lv_aload_n hx hb dX7_thin_0 rfl (lv_at hl 0 rfl) ?_
  refine lv_iload_n hx hb dX7_thin_1 rfl (lv_at hl 1 rfl) ?_
  refine lv_iconst (v := 0) hx hb dX7_thin_2 (by decide +kernel) ?_
  have hPc := hP.sub (ws' := [(h0, .inr (7, [.ref mnw, .ref mhd, .ref mas, .ref mps, .ref msf, .ref mdt, .ref mhdd, .ref masd, .ref mpsd, .ref msfd, .ref mkp, .int 0, .ref mtp, .int 0, .int 0, .int 0, .int 0, .ref mld, .int 0, .ref mmd, .ref men, .ref mil, .ref mqu, .int 0, .int 0, .ref mbx])), (mnw, .inl (kI, 99, .inl (fun _ => 0)))]) [0, 1] rfl
  have hDc := hD.sub (ws' := [(h0, .inr (7, [.ref mnw, .ref mhd, .ref mas, .ref mps, .ref msf, .ref mdt, .ref mhdd, .ref masd, .ref mpsd, .ref msfd, .ref mkp, .int 0, .ref mtp, .int 0, .int 0, .int 0, .int 0, .ref mld, .int 0, .ref mmd, .ref men, .ref mil, .ref mqu, .int 0, .int 0, .ref mbx])), (mnw, .inl (kI, 99, .inl (fun _ => 0)))]) [0, 1] (by decide) rfl
  have hKc := hK.sub (tys' := [(kI, .int)]) [0] rfl
  refine ro_i (va_runV (As := [.int p0, .int 0]) (rest := []) ⟨hx, hb, hml, hown, hts⟩ (c_X7_changes l dC dI h0 mnw mhd mas mps msf mdt mhdd masd mpsd msfd mkp mtp mld mmd men mil mqu mbx kI H.size p0 0 ) (cwV 2 hts (gV pq1387 pq1389 pq35 pq81 pq1390) rfl rfl rfl (by decide +kernel) ⟨(Nat.le_of_ble_eq_true rfl), (Nat.le_of_ble_eq_true rfl)⟩) (pc_V hPc hDc hKc hN (va_recv hK hP (ci := 7) (q0 := 0) rfl rfl)) rfl rfl hl.1 rfl (lv_room (Nat.le_of_ble_eq_true rfl)) dX7_thin_3 ⟨(Nat.le_of_ble_eq_true rfl), (Nat.le_of_ble_eq_true rfl)⟩) hS hP (fun r1 H locs hr1 hP hS => ?_)
  subst hr1
  exact W.iret (v := (-1)) hx hb hr (fun t ht hW => ⟨⟨(-1), (), rfl, rfl, trivial⟩, hS.F ht⟩) hS.2.2 dX7_thin_6

set_option maxHeartbeats 4000000 in
set_option maxRecDepth 100000 in
theorem c_X7_join (l : Launch) (dC : Nat → ClassId) (dI : Nat → Nat → Nat) (h0 mnw mhd mas mps msf mdt mhdd masd mpsd msfd mkp mtp mld mmd men mil mqu mbx : Nat) (kI : ClassId) (sz : Nat) (p0 : Int32) (p1 : Int32) (p2 : Int32) (p3 : Int32) (p4 : Int32) : Met l yX7_join (.code yX7_join cX7_join 11 (some .int) :: pw) ({ frames := 2, cells := 0, slots := 0, locals := 46 }) (pc (dC, dI) [.ref h0, .int p0, .int p1, .int p2, .int p3, .int p4] sz [(h0, .inr (7, [.ref mnw, .ref mhd, .ref mas, .ref mps, .ref msf, .ref mdt, .ref mhdd, .ref masd, .ref mpsd, .ref msfd, .ref mkp, .int 0, .ref mtp, .int 0, .int 0, .int 0, .int 0, .ref mld, .int 0, .ref mmd, .ref men, .ref mil, .ref mqu, .int 0, .int 0, .ref mbx])), (mnw, .inl (kI, 99, .inl (fun _ => 0)))] [(kI, .int)]) (va_Qi (fun (r : Int32) (_ : Unit) => r = (-1)) (fun _ _ => True) (fun _ => False)) 0 0 (fun _ => False) := by
  refine Met.ofW (cc := cX7_join) (maxL := 11) (ret := (some .int)) (by decide +kernel) rfl ?_
  intro p e s m args below meth c s₁ B hml hv
  obtain ⟨rfl, hsz, hP, hK, hD0, hN⟩ := hv
  have hx := B.exec
  have hb := B.bytes
  have hr := B.returns
  have hts := fun w (h : w ∈ pw) => atoms_spec (ws := Cond.code yX7_join cX7_join 11 (some .int) :: pw) B.pre w (List.mem_cons_of_mem _ h)
  have hown : s.vm.findClass RX7 = some m.cls := findClass_of_methodNamed B.named
  have hlocks := B.notSynchronized
  subst hsz
  have hD := hD0
  obtain ⟨H, hHe⟩ : ∃ H : Heap, H = s.heap := ⟨_, rfl⟩
  have hS : va_S (fun _ => False) s.heap H [] := by rw [hHe]; exact va_S.rf
  rw [← hHe] at hP
  have hl := lv_entry ([.ref h0, .int p0, .int p1, .int p2, .int p3, .int p4]) (n := 11) (Nat.le_of_ble_eq_true rfl)
  rw [lg_entry_eq]
  generalize (lg_sl ([.ref h0, .int p0, .int p1, .int p2, .int p3, .int p4]) ++ List.replicate (11 - (lg_sl ([.ref h0, .int p0, .int p1, .int p2, .int p3, .int p4])).length) Slot.unset).toArray = ls at hl ⊢
  have hl : lv_has ls 11 [(0, .ref h0), (1, .int p0), (2, .int p1), (3, .int p2), (4, .int p3), (5, .int p4)] := hl
  rw [← hHe]
  refine lv_aload_n hx hb dX7_join_0 rfl (lv_at hl 0 rfl) ?_
  refine lv_iload_n hx hb dX7_join_1 rfl (lv_at hl 1 rfl) ?_
  have hPc := hP.sub (ws' := [(h0, .inr (7, [.ref mnw, .ref mhd, .ref mas, .ref mps, .ref msf, .ref mdt, .ref mhdd, .ref masd, .ref mpsd, .ref msfd, .ref mkp, .int 0, .ref mtp, .int 0, .int 0, .int 0, .int 0, .ref mld, .int 0, .ref mmd, .ref men, .ref mil, .ref mqu, .int 0, .int 0, .ref mbx])), (mnw, .inl (kI, 99, .inl (fun _ => 0)))]) [0, 1] rfl
  have hDc := hD.sub (ws' := [(h0, .inr (7, [.ref mnw, .ref mhd, .ref mas, .ref mps, .ref msf, .ref mdt, .ref mhdd, .ref masd, .ref mpsd, .ref msfd, .ref mkp, .int 0, .ref mtp, .int 0, .int 0, .int 0, .int 0, .ref mld, .int 0, .ref mmd, .ref men, .ref mil, .ref mqu, .int 0, .int 0, .ref mbx])), (mnw, .inl (kI, 99, .inl (fun _ => 0)))]) [0, 1] (by decide) rfl
  have hKc := hK.sub (tys' := [(kI, .int)]) [0] rfl
  refine ro_i (va_runV (As := [.int p0]) (rest := []) ⟨hx, hb, hml, hown, hts⟩ (c_X7_isMask l dC dI h0 mnw mhd mas mps msf mdt mhdd masd mpsd msfd mkp mtp mld mmd men mil mqu mbx kI H.size p0 ) (cwV 1 hts (gV pq1364 pq1366 pq31 pq81 pq1367) rfl rfl rfl (by decide +kernel) ⟨(Nat.le_of_ble_eq_true rfl), (Nat.le_of_ble_eq_true rfl)⟩) (pc_V hPc hDc hKc hN (va_recv hK hP (ci := 7) (q0 := 0) rfl rfl)) rfl rfl hl.1 rfl (lv_room (Nat.le_of_ble_eq_true rfl)) dX7_join_2 ⟨(Nat.le_of_ble_eq_true rfl), (Nat.le_of_ble_eq_true rfl)⟩) hS hP (fun r1 H locs hr1 hP hS => ?_)
  subst hr1
  refine lv_if_eq (tgt := 58) hx hb dX7_join_5 (by decide) (fun c2 => ?_) (fun c2 => absurd (by decide +kernel) c2)
  refine lv_iconst (v := (-1)) hx hb dX7_join_58 (by decide +kernel) ?_
  exact W.iret (v := (-1)) hx hb hr (fun t ht hW => ⟨⟨(-1), (), rfl, rfl, trivial⟩, hS.F ht⟩) hS.2.2 dX7_join_59

set_option maxHeartbeats 4000000 in
set_option maxRecDepth 100000 in
theorem c_X7_slide (l : Launch) (dC : Nat → ClassId) (dI : Nat → Nat → Nat) (h0 mnw mhd mas mps msf mdt mhdd masd mpsd msfd mkp mtp mld mmd men mil mqu mbx : Nat) (kI : ClassId) (sz : Nat) (p0 : Int32) (p1 : Int32) (p2 : Int32) : Met l yX7_slide (.code yX7_slide cX7_slide 6 (some .int) :: pw) ({ frames := 2, cells := 0, slots := 0, locals := 46 }) (pc (dC, dI) [.ref h0, .int p0, .int p1, .int p2] sz [(h0, .inr (7, [.ref mnw, .ref mhd, .ref mas, .ref mps, .ref msf, .ref mdt, .ref mhdd, .ref masd, .ref mpsd, .ref msfd, .ref mkp, .int 0, .ref mtp, .int 0, .int 0, .int 0, .int 0, .ref mld, .int 0, .ref mmd, .ref men, .ref mil, .ref mqu, .int 0, .int 0, .ref mbx])), (mnw, .inl (kI, 99, .inl (fun _ => 0)))] [(kI, .int)]) (va_Qi (fun (r : Int32) (_ : Unit) => r = (-1)) (fun _ _ => True) (fun _ => False)) 0 0 (fun _ => False) := by
  refine Met.ofW (cc := cX7_slide) (maxL := 6) (ret := (some .int)) (by decide +kernel) rfl ?_
  intro p e s m args below meth c s₁ B hml hv
  obtain ⟨rfl, hsz, hP, hK, hD0, hN⟩ := hv
  have hx := B.exec
  have hb := B.bytes
  have hr := B.returns
  have hts := fun w (h : w ∈ pw) => atoms_spec (ws := Cond.code yX7_slide cX7_slide 6 (some .int) :: pw) B.pre w (List.mem_cons_of_mem _ h)
  have hown : s.vm.findClass RX7 = some m.cls := findClass_of_methodNamed B.named
  have hlocks := B.notSynchronized
  subst hsz
  have hD := hD0
  obtain ⟨H, hHe⟩ : ∃ H : Heap, H = s.heap := ⟨_, rfl⟩
  have hS : va_S (fun _ => False) s.heap H [] := by rw [hHe]; exact va_S.rf
  rw [← hHe] at hP
  have hl := lv_entry ([.ref h0, .int p0, .int p1, .int p2]) (n := 6) (Nat.le_of_ble_eq_true rfl)
  rw [lg_entry_eq]
  generalize (lg_sl ([.ref h0, .int p0, .int p1, .int p2]) ++ List.replicate (6 - (lg_sl ([.ref h0, .int p0, .int p1, .int p2])).length) Slot.unset).toArray = ls at hl ⊢
  have hl : lv_has ls 6 [(0, .ref h0), (1, .int p0), (2, .int p1), (3, .int p2)] := hl
  rw [← hHe]
  refine lv_aload_n hx hb dX7_slide_0 rfl (lv_at hl 0 rfl) ?_
  refine lv_iload_n hx hb dX7_slide_1 rfl (lv_at hl 1 rfl) ?_
  have hPc := hP.sub (ws' := [(h0, .inr (7, [.ref mnw, .ref mhd, .ref mas, .ref mps, .ref msf, .ref mdt, .ref mhdd, .ref masd, .ref mpsd, .ref msfd, .ref mkp, .int 0, .ref mtp, .int 0, .int 0, .int 0, .int 0, .ref mld, .int 0, .ref mmd, .ref men, .ref mil, .ref mqu, .int 0, .int 0, .ref mbx])), (mnw, .inl (kI, 99, .inl (fun _ => 0)))]) [0, 1] rfl
  have hDc := hD.sub (ws' := [(h0, .inr (7, [.ref mnw, .ref mhd, .ref mas, .ref mps, .ref msf, .ref mdt, .ref mhdd, .ref masd, .ref mpsd, .ref msfd, .ref mkp, .int 0, .ref mtp, .int 0, .int 0, .int 0, .int 0, .ref mld, .int 0, .ref mmd, .ref men, .ref mil, .ref mqu, .int 0, .int 0, .ref mbx])), (mnw, .inl (kI, 99, .inl (fun _ => 0)))]) [0, 1] (by decide) rfl
  have hKc := hK.sub (tys' := [(kI, .int)]) [0] rfl
  refine ro_i (va_runV (As := [.int p0]) (rest := []) ⟨hx, hb, hml, hown, hts⟩ (c_X7_isBody l dC dI h0 mnw mhd mas mps msf mdt mhdd masd mpsd msfd mkp mtp mld mmd men mil mqu mbx kI H.size p0 ) (cwV 1 hts (gV pq1310 pq1312 pq23 pq81 pq1313) rfl rfl rfl (by decide +kernel) ⟨(Nat.le_of_ble_eq_true rfl), (Nat.le_of_ble_eq_true rfl)⟩) (pc_V hPc hDc hKc hN (va_recv hK hP (ci := 7) (q0 := 0) rfl rfl)) rfl rfl hl.1 rfl (lv_room (Nat.le_of_ble_eq_true rfl)) dX7_slide_2 ⟨(Nat.le_of_ble_eq_true rfl), (Nat.le_of_ble_eq_true rfl)⟩) hS hP (fun r1 H locs hr1 hP hS => ?_)
  subst hr1
  refine lv_if_eq (tgt := 16) hx hb dX7_slide_5 (by decide) (fun c2 => ?_) (fun c2 => absurd (by decide +kernel) c2)
  refine lv_iconst (v := (-1)) hx hb dX7_slide_16 (by decide +kernel) ?_
  exact W.iret (v := (-1)) hx hb hr (fun t ht hW => ⟨⟨(-1), (), rfl, rfl, trivial⟩, hS.F ht⟩) hS.2.2 dX7_slide_17

set_option maxHeartbeats 4000000 in
set_option maxRecDepth 100000 in
theorem c_X7_push (l : Launch) (dC : Nat → ClassId) (dI : Nat → Nat → Nat) (h0 mnw mhd mas mps msf mdt mhdd masd mpsd msfd mkp mtp mld mmd men mil mqu mbx : Nat) (kI : ClassId) (sz : Nat) (p0 : Int32) (p1 : Int32) (p2 : Int32) : Met l yX7_push (.code yX7_push cX7_push 12 (some .int) :: pw) ({ frames := 2, cells := 0, slots := 0, locals := 46 }) (pc (dC, dI) [.ref h0, .int p0, .int p1, .int p2] sz [(h0, .inr (7, [.ref mnw, .ref mhd, .ref mas, .ref mps, .ref msf, .ref mdt, .ref mhdd, .ref masd, .ref mpsd, .ref msfd, .ref mkp, .int 0, .ref mtp, .int 0, .int 0, .int 0, .int 0, .ref mld, .int 0, .ref mmd, .ref men, .ref mil, .ref mqu, .int 0, .int 0, .ref mbx])), (mnw, .inl (kI, 99, .inl (fun _ => 0)))] [(kI, .int)]) (va_Qi (fun (r : Int32) (_ : Unit) => r = (-1)) (fun _ _ => True) (fun _ => False)) 0 0 (fun _ => False) := by
  refine Met.ofW (cc := cX7_push) (maxL := 12) (ret := (some .int)) (by decide +kernel) rfl ?_
  intro p e s m args below meth c s₁ B hml hv
  obtain ⟨rfl, hsz, hP, hK, hD0, hN⟩ := hv
  have hx := B.exec
  have hb := B.bytes
  have hr := B.returns
  have hts := fun w (h : w ∈ pw) => atoms_spec (ws := Cond.code yX7_push cX7_push 12 (some .int) :: pw) B.pre w (List.mem_cons_of_mem _ h)
  have hown : s.vm.findClass RX7 = some m.cls := findClass_of_methodNamed B.named
  have hlocks := B.notSynchronized
  subst hsz
  have hD := hD0
  obtain ⟨H, hHe⟩ : ∃ H : Heap, H = s.heap := ⟨_, rfl⟩
  have hS : va_S (fun _ => False) s.heap H [] := by rw [hHe]; exact va_S.rf
  rw [← hHe] at hP
  have hl := lv_entry ([.ref h0, .int p0, .int p1, .int p2]) (n := 12) (Nat.le_of_ble_eq_true rfl)
  rw [lg_entry_eq]
  generalize (lg_sl ([.ref h0, .int p0, .int p1, .int p2]) ++ List.replicate (12 - (lg_sl ([.ref h0, .int p0, .int p1, .int p2])).length) Slot.unset).toArray = ls at hl ⊢
  have hl : lv_has ls 12 [(0, .ref h0), (1, .int p0), (2, .int p1), (3, .int p2)] := hl
  rw [← hHe]
  refine lv_aload_n hx hb dX7_push_0 rfl (lv_at hl 0 rfl) ?_
  refine lv_iload_n hx hb dX7_push_1 rfl (lv_at hl 1 rfl) ?_
  have hPc := hP.sub (ws' := [(h0, .inr (7, [.ref mnw, .ref mhd, .ref mas, .ref mps, .ref msf, .ref mdt, .ref mhdd, .ref masd, .ref mpsd, .ref msfd, .ref mkp, .int 0, .ref mtp, .int 0, .int 0, .int 0, .int 0, .ref mld, .int 0, .ref mmd, .ref men, .ref mil, .ref mqu, .int 0, .int 0, .ref mbx])), (mnw, .inl (kI, 99, .inl (fun _ => 0)))]) [0, 1] rfl
  have hDc := hD.sub (ws' := [(h0, .inr (7, [.ref mnw, .ref mhd, .ref mas, .ref mps, .ref msf, .ref mdt, .ref mhdd, .ref masd, .ref mpsd, .ref msfd, .ref mkp, .int 0, .ref mtp, .int 0, .int 0, .int 0, .int 0, .ref mld, .int 0, .ref mmd, .ref men, .ref mil, .ref mqu, .int 0, .int 0, .ref mbx])), (mnw, .inl (kI, 99, .inl (fun _ => 0)))]) [0, 1] (by decide) rfl
  have hKc := hK.sub (tys' := [(kI, .int)]) [0] rfl
  refine ro_i (va_runV (As := [.int p0]) (rest := []) ⟨hx, hb, hml, hown, hts⟩ (c_X7_isBody l dC dI h0 mnw mhd mas mps msf mdt mhdd masd mpsd msfd mkp mtp mld mmd men mil mqu mbx kI H.size p0 ) (cwV 1 hts (gV pq1310 pq1312 pq23 pq81 pq1313) rfl rfl rfl (by decide +kernel) ⟨(Nat.le_of_ble_eq_true rfl), (Nat.le_of_ble_eq_true rfl)⟩) (pc_V hPc hDc hKc hN (va_recv hK hP (ci := 7) (q0 := 0) rfl rfl)) rfl rfl hl.1 rfl (lv_room (Nat.le_of_ble_eq_true rfl)) dX7_push_2 ⟨(Nat.le_of_ble_eq_true rfl), (Nat.le_of_ble_eq_true rfl)⟩) hS hP (fun r1 H locs hr1 hP hS => ?_)
  subst hr1
  refine lv_if_eq (tgt := 16) hx hb dX7_push_5 (by decide) (fun c2 => ?_) (fun c2 => absurd (by decide +kernel) c2)
  refine lv_iconst (v := (-1)) hx hb dX7_push_16 (by decide +kernel) ?_
  exact W.iret (v := (-1)) hx hb hr (fun t ht hW => ⟨⟨(-1), (), rfl, rfl, trivial⟩, hS.F ht⟩) hS.2.2 dX7_push_17

set_option maxHeartbeats 4000000 in
set_option maxRecDepth 100000 in
theorem c_X7_crop (l : Launch) (dC : Nat → ClassId) (dI : Nat → Nat → Nat) (h0 mnw mhd mas mps msf mdt mhdd masd mpsd msfd mkp mtp mld mmd men mil mqu mbx : Nat) (kI : ClassId) (sz : Nat) (p0 : Int32) : Met l yX7_crop (.code yX7_crop cX7_crop 4 (some .int) :: pw) ({ frames := 2, cells := 0, slots := 0, locals := 46 }) (pc (dC, dI) [.ref h0, .int p0] sz [(h0, .inr (7, [.ref mnw, .ref mhd, .ref mas, .ref mps, .ref msf, .ref mdt, .ref mhdd, .ref masd, .ref mpsd, .ref msfd, .ref mkp, .int 0, .ref mtp, .int 0, .int 0, .int 0, .int 0, .ref mld, .int 0, .ref mmd, .ref men, .ref mil, .ref mqu, .int 0, .int 0, .ref mbx])), (mnw, .inl (kI, 99, .inl (fun _ => 0)))] [(kI, .int)]) (va_Qi (fun (r : Int32) (_ : Unit) => r = (-1)) (fun _ _ => True) (fun _ => False)) 0 0 (fun _ => False) := by
  refine Met.ofW (cc := cX7_crop) (maxL := 4) (ret := (some .int)) (by decide +kernel) rfl ?_
  intro p e s m args below meth c s₁ B hml hv
  obtain ⟨rfl, hsz, hP, hK, hD0, hN⟩ := hv
  have hx := B.exec
  have hb := B.bytes
  have hr := B.returns
  have hts := fun w (h : w ∈ pw) => atoms_spec (ws := Cond.code yX7_crop cX7_crop 4 (some .int) :: pw) B.pre w (List.mem_cons_of_mem _ h)
  have hown : s.vm.findClass RX7 = some m.cls := findClass_of_methodNamed B.named
  have hlocks := B.notSynchronized
  subst hsz
  have hD := hD0
  obtain ⟨H, hHe⟩ : ∃ H : Heap, H = s.heap := ⟨_, rfl⟩
  have hS : va_S (fun _ => False) s.heap H [] := by rw [hHe]; exact va_S.rf
  rw [← hHe] at hP
  have hl := lv_entry ([.ref h0, .int p0]) (n := 4) (Nat.le_of_ble_eq_true rfl)
  rw [lg_entry_eq]
  generalize (lg_sl ([.ref h0, .int p0]) ++ List.replicate (4 - (lg_sl ([.ref h0, .int p0])).length) Slot.unset).toArray = ls at hl ⊢
  have hl : lv_has ls 4 [(0, .ref h0), (1, .int p0)] := hl
  rw [← hHe]
  refine lv_aload_n hx hb dX7_crop_0 rfl (lv_at hl 0 rfl) ?_
  refine lv_iload_n hx hb dX7_crop_1 rfl (lv_at hl 1 rfl) ?_
  have hPc := hP.sub (ws' := [(h0, .inr (7, [.ref mnw, .ref mhd, .ref mas, .ref mps, .ref msf, .ref mdt, .ref mhdd, .ref masd, .ref mpsd, .ref msfd, .ref mkp, .int 0, .ref mtp, .int 0, .int 0, .int 0, .int 0, .ref mld, .int 0, .ref mmd, .ref men, .ref mil, .ref mqu, .int 0, .int 0, .ref mbx])), (mnw, .inl (kI, 99, .inl (fun _ => 0)))]) [0, 1] rfl
  have hDc := hD.sub (ws' := [(h0, .inr (7, [.ref mnw, .ref mhd, .ref mas, .ref mps, .ref msf, .ref mdt, .ref mhdd, .ref masd, .ref mpsd, .ref msfd, .ref mkp, .int 0, .ref mtp, .int 0, .int 0, .int 0, .int 0, .ref mld, .int 0, .ref mmd, .ref men, .ref mil, .ref mqu, .int 0, .int 0, .ref mbx])), (mnw, .inl (kI, 99, .inl (fun _ => 0)))]) [0, 1] (by decide) rfl
  have hKc := hK.sub (tys' := [(kI, .int)]) [0] rfl
  refine ro_i (va_runV (As := [.int p0]) (rest := []) ⟨hx, hb, hml, hown, hts⟩ (c_X7_isMask l dC dI h0 mnw mhd mas mps msf mdt mhdd masd mpsd msfd mkp mtp mld mmd men mil mqu mbx kI H.size p0 ) (cwV 1 hts (gV pq1364 pq1366 pq31 pq81 pq1367) rfl rfl rfl (by decide +kernel) ⟨(Nat.le_of_ble_eq_true rfl), (Nat.le_of_ble_eq_true rfl)⟩) (pc_V hPc hDc hKc hN (va_recv hK hP (ci := 7) (q0 := 0) rfl rfl)) rfl rfl hl.1 rfl (lv_room (Nat.le_of_ble_eq_true rfl)) dX7_crop_2 ⟨(Nat.le_of_ble_eq_true rfl), (Nat.le_of_ble_eq_true rfl)⟩) hS hP (fun r1 H locs hr1 hP hS => ?_)
  subst hr1
  refine lv_if_ne (tgt := 10) hx hb dX7_crop_5 (by decide) (fun c2 => absurd (by decide +kernel) c2) (fun c2 => ?_)
  refine lv_iconst (v := (-1)) hx hb dX7_crop_8 (by decide +kernel) ?_
  exact W.iret (v := (-1)) hx hb hr (fun t ht hW => ⟨⟨(-1), (), rfl, rfl, trivial⟩, hS.F ht⟩) hS.2.2 dX7_crop_9

set_option maxHeartbeats 4000000 in
set_option maxRecDepth 100000 in
theorem c_X7_quarter (l : Launch) (dC : Nat → ClassId) (dI : Nat → Nat → Nat) (h0 mnw mhd mas mps msf mdt mhdd masd mpsd msfd mkp mtp mld mmd men mil mqu mbx : Nat) (kI : ClassId) (sz : Nat) (p0 : Int32) : Met l yX7_quarter (.code yX7_quarter cX7_quarter 4 (some .int) :: pw) ({ frames := 2, cells := 0, slots := 0, locals := 46 }) (pc (dC, dI) [.ref h0, .int p0] sz [(h0, .inr (7, [.ref mnw, .ref mhd, .ref mas, .ref mps, .ref msf, .ref mdt, .ref mhdd, .ref masd, .ref mpsd, .ref msfd, .ref mkp, .int 0, .ref mtp, .int 0, .int 0, .int 0, .int 0, .ref mld, .int 0, .ref mmd, .ref men, .ref mil, .ref mqu, .int 0, .int 0, .ref mbx])), (mnw, .inl (kI, 99, .inl (fun _ => 0)))] [(kI, .int)]) (va_Qi (fun (r : Int32) (_ : Unit) => r = (-1)) (fun _ _ => True) (fun _ => False)) 0 0 (fun _ => False) := by
  refine Met.ofW (cc := cX7_quarter) (maxL := 4) (ret := (some .int)) (by decide +kernel) rfl ?_
  intro p e s m args below meth c s₁ B hml hv
  obtain ⟨rfl, hsz, hP, hK, hD0, hN⟩ := hv
  have hx := B.exec
  have hb := B.bytes
  have hr := B.returns
  have hts := fun w (h : w ∈ pw) => atoms_spec (ws := Cond.code yX7_quarter cX7_quarter 4 (some .int) :: pw) B.pre w (List.mem_cons_of_mem _ h)
  have hown : s.vm.findClass RX7 = some m.cls := findClass_of_methodNamed B.named
  have hlocks := B.notSynchronized
  subst hsz
  have hD := hD0
  obtain ⟨H, hHe⟩ : ∃ H : Heap, H = s.heap := ⟨_, rfl⟩
  have hS : va_S (fun _ => False) s.heap H [] := by rw [hHe]; exact va_S.rf
  rw [← hHe] at hP
  have hl := lv_entry ([.ref h0, .int p0]) (n := 4) (Nat.le_of_ble_eq_true rfl)
  rw [lg_entry_eq]
  generalize (lg_sl ([.ref h0, .int p0]) ++ List.replicate (4 - (lg_sl ([.ref h0, .int p0])).length) Slot.unset).toArray = ls at hl ⊢
  have hl : lv_has ls 4 [(0, .ref h0), (1, .int p0)] := hl
  rw [← hHe]
  refine lv_aload_n hx hb dX7_quarter_0 rfl (lv_at hl 0 rfl) ?_
  refine lv_iload_n hx hb dX7_quarter_1 rfl (lv_at hl 1 rfl) ?_
  have hPc := hP.sub (ws' := [(h0, .inr (7, [.ref mnw, .ref mhd, .ref mas, .ref mps, .ref msf, .ref mdt, .ref mhdd, .ref masd, .ref mpsd, .ref msfd, .ref mkp, .int 0, .ref mtp, .int 0, .int 0, .int 0, .int 0, .ref mld, .int 0, .ref mmd, .ref men, .ref mil, .ref mqu, .int 0, .int 0, .ref mbx])), (mnw, .inl (kI, 99, .inl (fun _ => 0)))]) [0, 1] rfl
  have hDc := hD.sub (ws' := [(h0, .inr (7, [.ref mnw, .ref mhd, .ref mas, .ref mps, .ref msf, .ref mdt, .ref mhdd, .ref masd, .ref mpsd, .ref msfd, .ref mkp, .int 0, .ref mtp, .int 0, .int 0, .int 0, .int 0, .ref mld, .int 0, .ref mmd, .ref men, .ref mil, .ref mqu, .int 0, .int 0, .ref mbx])), (mnw, .inl (kI, 99, .inl (fun _ => 0)))]) [0, 1] (by decide) rfl
  have hKc := hK.sub (tys' := [(kI, .int)]) [0] rfl
  refine ro_i (va_runV (As := [.int p0]) (rest := []) ⟨hx, hb, hml, hown, hts⟩ (c_X7_isMask l dC dI h0 mnw mhd mas mps msf mdt mhdd masd mpsd msfd mkp mtp mld mmd men mil mqu mbx kI H.size p0 ) (cwV 1 hts (gV pq1364 pq1366 pq31 pq81 pq1367) rfl rfl rfl (by decide +kernel) ⟨(Nat.le_of_ble_eq_true rfl), (Nat.le_of_ble_eq_true rfl)⟩) (pc_V hPc hDc hKc hN (va_recv hK hP (ci := 7) (q0 := 0) rfl rfl)) rfl rfl hl.1 rfl (lv_room (Nat.le_of_ble_eq_true rfl)) dX7_quarter_2 ⟨(Nat.le_of_ble_eq_true rfl), (Nat.le_of_ble_eq_true rfl)⟩) hS hP (fun r1 H locs hr1 hP hS => ?_)
  subst hr1
  refine lv_if_ne (tgt := 10) hx hb dX7_quarter_5 (by decide) (fun c2 => absurd (by decide +kernel) c2) (fun c2 => ?_)
  refine lv_iconst (v := (-1)) hx hb dX7_quarter_8 (by decide +kernel) ?_
  exact W.iret (v := (-1)) hx hb hr (fun t ht hW => ⟨⟨(-1), (), rfl, rfl, trivial⟩, hS.F ht⟩) hS.2.2 dX7_quarter_9

set_option maxHeartbeats 4000000 in
set_option maxRecDepth 100000 in
theorem c_X7_mask (l : Launch) (dC : Nat → ClassId) (dI : Nat → Nat → Nat) (h0 mnw mhd mas mps msf mdt mhdd masd mpsd msfd mkp mtp mld mmd men mil mqu mbx : Nat) (kI : ClassId) (sz : Nat) (p0 : Int32) (p1 : Int32) : Met l yX7_mask (.code yX7_mask cX7_mask 3 (some .int) :: pw) ({ frames := 2, cells := 0, slots := 0, locals := 46 }) (pc (dC, dI) [.ref h0, .int p0, .int p1] sz [(h0, .inr (7, [.ref mnw, .ref mhd, .ref mas, .ref mps, .ref msf, .ref mdt, .ref mhdd, .ref masd, .ref mpsd, .ref msfd, .ref mkp, .int 0, .ref mtp, .int 0, .int 0, .int 0, .int 0, .ref mld, .int 0, .ref mmd, .ref men, .ref mil, .ref mqu, .int 0, .int 0, .ref mbx])), (mnw, .inl (kI, 99, .inl (fun _ => 0)))] [(kI, .int)]) (va_Qi (fun (r : Int32) (_ : Unit) => r = (-1)) (fun _ _ => True) (fun _ => False)) 0 0 (fun _ => False) := by
  refine Met.ofW (cc := cX7_mask) (maxL := 3) (ret := (some .int)) (by decide +kernel) rfl ?_
  intro p e s m args below meth c s₁ B hml hv
  obtain ⟨rfl, hsz, hP, hK, hD0, hN⟩ := hv
  have hx := B.exec
  have hb := B.bytes
  have hr := B.returns
  have hts := fun w (h : w ∈ pw) => atoms_spec (ws := Cond.code yX7_mask cX7_mask 3 (some .int) :: pw) B.pre w (List.mem_cons_of_mem _ h)
  have hown : s.vm.findClass RX7 = some m.cls := findClass_of_methodNamed B.named
  have hlocks := B.notSynchronized
  subst hsz
  have hD := hD0
  obtain ⟨H, hHe⟩ : ∃ H : Heap, H = s.heap := ⟨_, rfl⟩
  have hS : va_S (fun _ => False) s.heap H [] := by rw [hHe]; exact va_S.rf
  rw [← hHe] at hP
  have hl := lv_entry ([.ref h0, .int p0, .int p1]) (n := 3) (Nat.le_of_ble_eq_true rfl)
  rw [lg_entry_eq]
  generalize (lg_sl ([.ref h0, .int p0, .int p1]) ++ List.replicate (3 - (lg_sl ([.ref h0, .int p0, .int p1])).length) Slot.unset).toArray = ls at hl ⊢
  have hl : lv_has ls 3 [(0, .ref h0), (1, .int p0), (2, .int p1)] := hl
  rw [← hHe]
  refine lv_aload_n hx hb dX7_mask_0 rfl (lv_at hl 0 rfl) ?_
  refine lv_iload_n hx hb dX7_mask_1 rfl (lv_at hl 1 rfl) ?_
  have hPc := hP.sub (ws' := [(h0, .inr (7, [.ref mnw, .ref mhd, .ref mas, .ref mps, .ref msf, .ref mdt, .ref mhdd, .ref masd, .ref mpsd, .ref msfd, .ref mkp, .int 0, .ref mtp, .int 0, .int 0, .int 0, .int 0, .ref mld, .int 0, .ref mmd, .ref men, .ref mil, .ref mqu, .int 0, .int 0, .ref mbx])), (mnw, .inl (kI, 99, .inl (fun _ => 0)))]) [0, 1] rfl
  have hDc := hD.sub (ws' := [(h0, .inr (7, [.ref mnw, .ref mhd, .ref mas, .ref mps, .ref msf, .ref mdt, .ref mhdd, .ref masd, .ref mpsd, .ref msfd, .ref mkp, .int 0, .ref mtp, .int 0, .int 0, .int 0, .int 0, .ref mld, .int 0, .ref mmd, .ref men, .ref mil, .ref mqu, .int 0, .int 0, .ref mbx])), (mnw, .inl (kI, 99, .inl (fun _ => 0)))]) [0, 1] (by decide) rfl
  have hKc := hK.sub (tys' := [(kI, .int)]) [0] rfl
  refine ro_i (va_runV (As := [.int p0]) (rest := []) ⟨hx, hb, hml, hown, hts⟩ (c_X7_isMask l dC dI h0 mnw mhd mas mps msf mdt mhdd masd mpsd msfd mkp mtp mld mmd men mil mqu mbx kI H.size p0 ) (cwV 1 hts (gV pq1364 pq1366 pq31 pq81 pq1367) rfl rfl rfl (by decide +kernel) ⟨(Nat.le_of_ble_eq_true rfl), (Nat.le_of_ble_eq_true rfl)⟩) (pc_V hPc hDc hKc hN (va_recv hK hP (ci := 7) (q0 := 0) rfl rfl)) rfl rfl hl.1 rfl (lv_room (Nat.le_of_ble_eq_true rfl)) dX7_mask_2 ⟨(Nat.le_of_ble_eq_true rfl), (Nat.le_of_ble_eq_true rfl)⟩) hS hP (fun r1 H locs hr1 hP hS => ?_)
  subst hr1
  refine lv_if_ne (tgt := 10) hx hb dX7_mask_5 (by decide) (fun c2 => absurd (by decide +kernel) c2) (fun c2 => ?_)
  refine lv_iconst (v := (-1)) hx hb dX7_mask_8 (by decide +kernel) ?_
  exact W.iret (v := (-1)) hx hb hr (fun t ht hW => ⟨⟨(-1), (), rfl, rfl, trivial⟩, hS.F ht⟩) hS.2.2 dX7_mask_9

set_option maxHeartbeats 4000000 in
set_option maxRecDepth 100000 in
theorem c_X7_dot (l : Launch) (dC : Nat → ClassId) (dI : Nat → Nat → Nat) (h0 mnw mhd mas mps msf mdt mhdd masd mpsd msfd mkp mtp mld mmd men mil mqu mbx : Nat) (kI : ClassId) (sz : Nat) (p0 : Int32) (p1 : Int32) (p2 : Int32) : Met l yX7_dot (.code yX7_dot cX7_dot 4 (some .int) :: pw) ({ frames := 2, cells := 0, slots := 0, locals := 46 }) (pc (dC, dI) [.ref h0, .int p0, .int p1, .int p2] sz [(h0, .inr (7, [.ref mnw, .ref mhd, .ref mas, .ref mps, .ref msf, .ref mdt, .ref mhdd, .ref masd, .ref mpsd, .ref msfd, .ref mkp, .int 0, .ref mtp, .int 0, .int 0, .int 0, .int 0, .ref mld, .int 0, .ref mmd, .ref men, .ref mil, .ref mqu, .int 0, .int 0, .ref mbx])), (mnw, .inl (kI, 99, .inl (fun _ => 0)))] [(kI, .int)]) (va_Qi (fun (r : Int32) (_ : Unit) => r = (-1)) (fun _ _ => True) (fun _ => False)) 0 0 (fun _ => False) := by
  refine Met.ofW (cc := cX7_dot) (maxL := 4) (ret := (some .int)) (by decide +kernel) rfl ?_
  intro p e s m args below meth c s₁ B hml hv
  obtain ⟨rfl, hsz, hP, hK, hD0, hN⟩ := hv
  have hx := B.exec
  have hb := B.bytes
  have hr := B.returns
  have hts := fun w (h : w ∈ pw) => atoms_spec (ws := Cond.code yX7_dot cX7_dot 4 (some .int) :: pw) B.pre w (List.mem_cons_of_mem _ h)
  have hown : s.vm.findClass RX7 = some m.cls := findClass_of_methodNamed B.named
  have hlocks := B.notSynchronized
  subst hsz
  have hD := hD0
  obtain ⟨H, hHe⟩ : ∃ H : Heap, H = s.heap := ⟨_, rfl⟩
  have hS : va_S (fun _ => False) s.heap H [] := by rw [hHe]; exact va_S.rf
  rw [← hHe] at hP
  have hl := lv_entry ([.ref h0, .int p0, .int p1, .int p2]) (n := 4) (Nat.le_of_ble_eq_true rfl)
  rw [lg_entry_eq]
  generalize (lg_sl ([.ref h0, .int p0, .int p1, .int p2]) ++ List.replicate (4 - (lg_sl ([.ref h0, .int p0, .int p1, .int p2])).length) Slot.unset).toArray = ls at hl ⊢
  have hl : lv_has ls 4 [(0, .ref h0), (1, .int p0), (2, .int p1), (3, .int p2)] := hl
  rw [← hHe]
  refine lv_aload_n hx hb dX7_dot_0 rfl (lv_at hl 0 rfl) ?_
  refine lv_iload_n hx hb dX7_dot_1 rfl (lv_at hl 1 rfl) ?_
  have hPc := hP.sub (ws' := [(h0, .inr (7, [.ref mnw, .ref mhd, .ref mas, .ref mps, .ref msf, .ref mdt, .ref mhdd, .ref masd, .ref mpsd, .ref msfd, .ref mkp, .int 0, .ref mtp, .int 0, .int 0, .int 0, .int 0, .ref mld, .int 0, .ref mmd, .ref men, .ref mil, .ref mqu, .int 0, .int 0, .ref mbx])), (mnw, .inl (kI, 99, .inl (fun _ => 0)))]) [0, 1] rfl
  have hDc := hD.sub (ws' := [(h0, .inr (7, [.ref mnw, .ref mhd, .ref mas, .ref mps, .ref msf, .ref mdt, .ref mhdd, .ref masd, .ref mpsd, .ref msfd, .ref mkp, .int 0, .ref mtp, .int 0, .int 0, .int 0, .int 0, .ref mld, .int 0, .ref mmd, .ref men, .ref mil, .ref mqu, .int 0, .int 0, .ref mbx])), (mnw, .inl (kI, 99, .inl (fun _ => 0)))]) [0, 1] (by decide) rfl
  have hKc := hK.sub (tys' := [(kI, .int)]) [0] rfl
  refine ro_i (va_runV (As := [.int p0]) (rest := []) ⟨hx, hb, hml, hown, hts⟩ (c_X7_isMask l dC dI h0 mnw mhd mas mps msf mdt mhdd masd mpsd msfd mkp mtp mld mmd men mil mqu mbx kI H.size p0 ) (cwV 1 hts (gV pq1364 pq1366 pq31 pq81 pq1367) rfl rfl rfl (by decide +kernel) ⟨(Nat.le_of_ble_eq_true rfl), (Nat.le_of_ble_eq_true rfl)⟩) (pc_V hPc hDc hKc hN (va_recv hK hP (ci := 7) (q0 := 0) rfl rfl)) rfl rfl hl.1 rfl (lv_room (Nat.le_of_ble_eq_true rfl)) dX7_dot_2 ⟨(Nat.le_of_ble_eq_true rfl), (Nat.le_of_ble_eq_true rfl)⟩) hS hP (fun r1 H locs hr1 hP hS => ?_)
  subst hr1
  refine lv_if_eq (tgt := 21) hx hb dX7_dot_5 (by decide) (fun c2 => ?_) (fun c2 => absurd (by decide +kernel) c2)
  refine lv_iconst (v := (-1)) hx hb dX7_dot_21 (by decide +kernel) ?_
  exact W.iret (v := (-1)) hx hb hr (fun t ht hW => ⟨⟨(-1), (), rfl, rfl, trivial⟩, hS.F ht⟩) hS.2.2 dX7_dot_22

set_option maxHeartbeats 4000000 in
set_option maxRecDepth 100000 in
theorem c_X7_row (l : Launch) (dC : Nat → ClassId) (dI : Nat → Nat → Nat) (h0 mnw mhd mas mps msf mdt mhdd masd mpsd msfd mkp mtp mld mmd men mil mqu mbx : Nat) (kI : ClassId) (sz : Nat) (p0 : Int32) (p1 : Int32) (p2 : Int32) : Met l yX7_row (.code yX7_row cX7_row 4 (some .long) :: pw) ({ frames := 2, cells := 0, slots := 0, locals := 46 }) (pc (dC, dI) [.ref h0, .int p0, .int p1, .int p2] sz [(h0, .inr (7, [.ref mnw, .ref mhd, .ref mas, .ref mps, .ref msf, .ref mdt, .ref mhdd, .ref masd, .ref mpsd, .ref msfd, .ref mkp, .int 0, .ref mtp, .int 0, .int 0, .int 0, .int 0, .ref mld, .int 0, .ref mmd, .ref men, .ref mil, .ref mqu, .int 0, .int 0, .ref mbx])), (mnw, .inl (kI, 99, .inl (fun _ => 0)))] [(kI, .int)]) (va_Ql (fun (r : Int64) (_ : Unit) => r = 0) (fun _ _ => True) (fun _ => False)) 0 0 (fun _ => False) := by
  refine Met.ofW (cc := cX7_row) (maxL := 4) (ret := (some .long)) (by decide +kernel) rfl ?_
  intro p e s m args below meth c s₁ B hml hv
  obtain ⟨rfl, hsz, hP, hK, hD0, hN⟩ := hv
  have hx := B.exec
  have hb := B.bytes
  have hr := B.returns
  have hts := fun w (h : w ∈ pw) => atoms_spec (ws := Cond.code yX7_row cX7_row 4 (some .long) :: pw) B.pre w (List.mem_cons_of_mem _ h)
  have hown : s.vm.findClass RX7 = some m.cls := findClass_of_methodNamed B.named
  have hlocks := B.notSynchronized
  subst hsz
  have hD := hD0
  obtain ⟨H, hHe⟩ : ∃ H : Heap, H = s.heap := ⟨_, rfl⟩
  have hS : va_S (fun _ => False) s.heap H [] := by rw [hHe]; exact va_S.rf
  rw [← hHe] at hP
  have hl := lv_entry ([.ref h0, .int p0, .int p1, .int p2]) (n := 4) (Nat.le_of_ble_eq_true rfl)
  rw [lg_entry_eq]
  generalize (lg_sl ([.ref h0, .int p0, .int p1, .int p2]) ++ List.replicate (4 - (lg_sl ([.ref h0, .int p0, .int p1, .int p2])).length) Slot.unset).toArray = ls at hl ⊢
  have hl : lv_has ls 4 [(0, .ref h0), (1, .int p0), (2, .int p1), (3, .int p2)] := hl
  rw [← hHe]
  refine lv_aload_n hx hb dX7_row_0 rfl (lv_at hl 0 rfl) ?_
  refine lv_iload_n hx hb dX7_row_1 rfl (lv_at hl 1 rfl) ?_
  have hPc := hP.sub (ws' := [(h0, .inr (7, [.ref mnw, .ref mhd, .ref mas, .ref mps, .ref msf, .ref mdt, .ref mhdd, .ref masd, .ref mpsd, .ref msfd, .ref mkp, .int 0, .ref mtp, .int 0, .int 0, .int 0, .int 0, .ref mld, .int 0, .ref mmd, .ref men, .ref mil, .ref mqu, .int 0, .int 0, .ref mbx])), (mnw, .inl (kI, 99, .inl (fun _ => 0)))]) [0, 1] rfl
  have hDc := hD.sub (ws' := [(h0, .inr (7, [.ref mnw, .ref mhd, .ref mas, .ref mps, .ref msf, .ref mdt, .ref mhdd, .ref masd, .ref mpsd, .ref msfd, .ref mkp, .int 0, .ref mtp, .int 0, .int 0, .int 0, .int 0, .ref mld, .int 0, .ref mmd, .ref men, .ref mil, .ref mqu, .int 0, .int 0, .ref mbx])), (mnw, .inl (kI, 99, .inl (fun _ => 0)))]) [0, 1] (by decide) rfl
  have hKc := hK.sub (tys' := [(kI, .int)]) [0] rfl
  refine ro_i (va_runV (As := [.int p0]) (rest := []) ⟨hx, hb, hml, hown, hts⟩ (c_X7_isMask l dC dI h0 mnw mhd mas mps msf mdt mhdd masd mpsd msfd mkp mtp mld mmd men mil mqu mbx kI H.size p0 ) (cwV 1 hts (gV pq1364 pq1366 pq31 pq81 pq1367) rfl rfl rfl (by decide +kernel) ⟨(Nat.le_of_ble_eq_true rfl), (Nat.le_of_ble_eq_true rfl)⟩) (pc_V hPc hDc hKc hN (va_recv hK hP (ci := 7) (q0 := 0) rfl rfl)) rfl rfl hl.1 rfl (lv_room (Nat.le_of_ble_eq_true rfl)) dX7_row_2 ⟨(Nat.le_of_ble_eq_true rfl), (Nat.le_of_ble_eq_true rfl)⟩) hS hP (fun r1 H locs hr1 hP hS => ?_)
  subst hr1
  refine lv_if_eq (tgt := 53) hx hb dX7_row_5 (by decide) (fun c2 => ?_) (fun c2 => absurd (by decide +kernel) c2)
  refine lv_lconst (v := 0) hx hb dX7_row_53 (by decide +kernel) ?_
  exact W.lret (v := 0) hx hb hr (fun t ht hW => ⟨⟨0, (), rfl, rfl, trivial⟩, hS.F ht⟩) hS.2.2 dX7_row_54

set_option maxHeartbeats 4000000 in
set_option maxRecDepth 100000 in
theorem c_X7_body (l : Launch) (dC : Nat → ClassId) (dI : Nat → Nat → Nat) (h0 mnw mhd mas mps msf mdt mhdd masd mpsd msfd mkp mtp mld mmd men mil mqu mbx : Nat) (kI : ClassId) (sz : Nat) (p0 : Int32) (p1 : Int32) : Met l yX7_body (.code yX7_body cX7_body 3 (some .int) :: pw) ({ frames := 2, cells := 0, slots := 0, locals := 46 }) (pc (dC, dI) [.ref h0, .int p0, .int p1] sz [(h0, .inr (7, [.ref mnw, .ref mhd, .ref mas, .ref mps, .ref msf, .ref mdt, .ref mhdd, .ref masd, .ref mpsd, .ref msfd, .ref mkp, .int 0, .ref mtp, .int 0, .int 0, .int 0, .int 0, .ref mld, .int 0, .ref mmd, .ref men, .ref mil, .ref mqu, .int 0, .int 0, .ref mbx])), (mnw, .inl (kI, 99, .inl (fun _ => 0)))] [(kI, .int)]) (va_Qi (fun (r : Int32) (_ : Unit) => r = (-2000)) (fun _ _ => True) (fun _ => False)) 0 0 (fun _ => False) := by
  refine Met.ofW (cc := cX7_body) (maxL := 3) (ret := (some .int)) (by decide +kernel) rfl ?_
  intro p e s m args below meth c s₁ B hml hv
  obtain ⟨rfl, hsz, hP, hK, hD0, hN⟩ := hv
  have hx := B.exec
  have hb := B.bytes
  have hr := B.returns
  have hts := fun w (h : w ∈ pw) => atoms_spec (ws := Cond.code yX7_body cX7_body 3 (some .int) :: pw) B.pre w (List.mem_cons_of_mem _ h)
  have hown : s.vm.findClass RX7 = some m.cls := findClass_of_methodNamed B.named
  have hlocks := B.notSynchronized
  subst hsz
  have hD := hD0
  obtain ⟨H, hHe⟩ : ∃ H : Heap, H = s.heap := ⟨_, rfl⟩
  have hS : va_S (fun _ => False) s.heap H [] := by rw [hHe]; exact va_S.rf
  rw [← hHe] at hP
  have hl := lv_entry ([.ref h0, .int p0, .int p1]) (n := 3) (Nat.le_of_ble_eq_true rfl)
  rw [lg_entry_eq]
  generalize (lg_sl ([.ref h0, .int p0, .int p1]) ++ List.replicate (3 - (lg_sl ([.ref h0, .int p0, .int p1])).length) Slot.unset).toArray = ls at hl ⊢
  have hl : lv_has ls 3 [(0, .ref h0), (1, .int p0), (2, .int p1)] := hl
  rw [← hHe]
  refine lv_aload_n hx hb dX7_body_0 rfl (lv_at hl 0 rfl) ?_
  refine lv_iload_n hx hb dX7_body_1 rfl (lv_at hl 1 rfl) ?_
  have hPc := hP.sub (ws' := [(h0, .inr (7, [.ref mnw, .ref mhd, .ref mas, .ref mps, .ref msf, .ref mdt, .ref mhdd, .ref masd, .ref mpsd, .ref msfd, .ref mkp, .int 0, .ref mtp, .int 0, .int 0, .int 0, .int 0, .ref mld, .int 0, .ref mmd, .ref men, .ref mil, .ref mqu, .int 0, .int 0, .ref mbx])), (mnw, .inl (kI, 99, .inl (fun _ => 0)))]) [0, 1] rfl
  have hDc := hD.sub (ws' := [(h0, .inr (7, [.ref mnw, .ref mhd, .ref mas, .ref mps, .ref msf, .ref mdt, .ref mhdd, .ref masd, .ref mpsd, .ref msfd, .ref mkp, .int 0, .ref mtp, .int 0, .int 0, .int 0, .int 0, .ref mld, .int 0, .ref mmd, .ref men, .ref mil, .ref mqu, .int 0, .int 0, .ref mbx])), (mnw, .inl (kI, 99, .inl (fun _ => 0)))]) [0, 1] (by decide) rfl
  have hKc := hK.sub (tys' := [(kI, .int)]) [0] rfl
  refine ro_i (va_runV (As := [.int p0]) (rest := []) ⟨hx, hb, hml, hown, hts⟩ (c_X7_isBody l dC dI h0 mnw mhd mas mps msf mdt mhdd masd mpsd msfd mkp mtp mld mmd men mil mqu mbx kI H.size p0 ) (cwV 1 hts (gV pq1310 pq1312 pq23 pq81 pq1313) rfl rfl rfl (by decide +kernel) ⟨(Nat.le_of_ble_eq_true rfl), (Nat.le_of_ble_eq_true rfl)⟩) (pc_V hPc hDc hKc hN (va_recv hK hP (ci := 7) (q0 := 0) rfl rfl)) rfl rfl hl.1 rfl (lv_room (Nat.le_of_ble_eq_true rfl)) dX7_body_2 ⟨(Nat.le_of_ble_eq_true rfl), (Nat.le_of_ble_eq_true rfl)⟩) hS hP (fun r1 H locs hr1 hP hS => ?_)
  subst hr1
  refine lv_if_eq (tgt := 29) hx hb dX7_body_5 (by decide) (fun c2 => ?_) (fun c2 => absurd (by decide +kernel) c2)
  refine lv_sipush (v := (-2000)) hx hb dX7_body_29 (by decide +kernel) ?_
  exact W.iret (v := (-2000)) hx hb hr (fun t ht hW => ⟨⟨(-2000), (), rfl, rfl, trivial⟩, hS.F ht⟩) hS.2.2 dX7_body_32

set_option maxHeartbeats 4000000 in
set_option maxRecDepth 100000 in
theorem c_X7_common (l : Launch) (dC : Nat → ClassId) (dI : Nat → Nat → Nat) (h0 mnw mhd mas mps msf mdt mhdd masd mpsd msfd mkp mtp mld mmd men mil mqu mbx : Nat) (kI : ClassId) (sz : Nat) (p0 : Int32) (p1 : Int32) : Met l yX7_common (.code yX7_common cX7_common 3 (some .int) :: pw) ({ frames := 3, cells := 0, slots := 0, locals := 68 }) (pc (dC, dI) [.ref h0, .int p0, .int p1] sz [(h0, .inr (7, [.ref mnw, .ref mhd, .ref mas, .ref mps, .ref msf, .ref mdt, .ref mhdd, .ref masd, .ref mpsd, .ref msfd, .ref mkp, .int 0, .ref mtp, .int 0, .int 0, .int 0, .int 0, .ref mld, .int 0, .ref mmd, .ref men, .ref mil, .ref mqu, .int 0, .int 0, .ref mbx])), (mnw, .inl (kI, 99, .inl (fun _ => 0)))] [(kI, .int)]) (va_Qi (fun (r : Int32) (_ : Unit) => r = (-1)) (fun _ _ => True) (fun _ => False)) 0 0 (fun _ => False) := by
  refine Met.ofW (cc := cX7_common) (maxL := 3) (ret := (some .int)) (by decide +kernel) rfl ?_
  intro p e s m args below meth c s₁ B hml hv
  obtain ⟨rfl, hsz, hP, hK, hD0, hN⟩ := hv
  have hx := B.exec
  have hb := B.bytes
  have hr := B.returns
  have hts := fun w (h : w ∈ pw) => atoms_spec (ws := Cond.code yX7_common cX7_common 3 (some .int) :: pw) B.pre w (List.mem_cons_of_mem _ h)
  have hown : s.vm.findClass RX7 = some m.cls := findClass_of_methodNamed B.named
  have hlocks := B.notSynchronized
  subst hsz
  have hD := hD0
  obtain ⟨H, hHe⟩ : ∃ H : Heap, H = s.heap := ⟨_, rfl⟩
  have hS : va_S (fun _ => False) s.heap H [] := by rw [hHe]; exact va_S.rf
  rw [← hHe] at hP
  have hl := lv_entry ([.ref h0, .int p0, .int p1]) (n := 3) (Nat.le_of_ble_eq_true rfl)
  rw [lg_entry_eq]
  generalize (lg_sl ([.ref h0, .int p0, .int p1]) ++ List.replicate (3 - (lg_sl ([.ref h0, .int p0, .int p1])).length) Slot.unset).toArray = ls at hl ⊢
  have hl : lv_has ls 3 [(0, .ref h0), (1, .int p0), (2, .int p1)] := hl
  rw [← hHe]
  refine lv_aload_n hx hb dX7_common_0 rfl (lv_at hl 0 rfl) ?_
  refine lv_iload_n hx hb dX7_common_1 rfl (lv_at hl 1 rfl) ?_
  refine lv_iload_n hx hb dX7_common_2 rfl (lv_at hl 2 rfl) ?_
  have hPc := hP.sub (ws' := [(h0, .inr (7, [.ref mnw, .ref mhd, .ref mas, .ref mps, .ref msf, .ref mdt, .ref mhdd, .ref masd, .ref mpsd, .ref msfd, .ref mkp, .int 0, .ref mtp, .int 0, .int 0, .int 0, .int 0, .ref mld, .int 0, .ref mmd, .ref men, .ref mil, .ref mqu, .int 0, .int 0, .ref mbx])), (mnw, .inl (kI, 99, .inl (fun _ => 0)))]) [0, 1] rfl
  have hDc := hD.sub (ws' := [(h0, .inr (7, [.ref mnw, .ref mhd, .ref mas, .ref mps, .ref msf, .ref mdt, .ref mhdd, .ref masd, .ref mpsd, .ref msfd, .ref mkp, .int 0, .ref mtp, .int 0, .int 0, .int 0, .int 0, .ref mld, .int 0, .ref mmd, .ref men, .ref mil, .ref mqu, .int 0, .int 0, .ref mbx])), (mnw, .inl (kI, 99, .inl (fun _ => 0)))]) [0, 1] (by decide) rfl
  have hKc := hK.sub (tys' := [(kI, .int)]) [0] rfl
  refine ro_i (va_runV (As := [.int p0, .int p1]) (rest := []) ⟨hx, hb, hml, hown, hts⟩ (c_X7_areTwo l dC dI h0 mnw mhd mas mps msf mdt mhdd masd mpsd msfd mkp mtp mld mmd men mil mqu mbx kI H.size p0 p1 ) (cwV 2 hts (gV pq1571 pq1573 pq62 pq81 pq1574) rfl rfl rfl (by decide +kernel) ⟨(Nat.le_of_ble_eq_true rfl), (Nat.le_of_ble_eq_true rfl)⟩) (pc_V hPc hDc hKc hN (va_recv hK hP (ci := 7) (q0 := 0) rfl rfl)) rfl rfl hl.1 rfl (lv_room (Nat.le_of_ble_eq_true rfl)) dX7_common_3 ⟨(Nat.le_of_ble_eq_true rfl), (Nat.le_of_ble_eq_true rfl)⟩) hS hP (fun r1 H locs hr1 hP hS => ?_)
  subst hr1
  refine lv_if_ne (tgt := 11) hx hb dX7_common_6 (by decide) (fun c2 => absurd (by decide +kernel) c2) (fun c2 => ?_)
  refine lv_iconst (v := (-1)) hx hb dX7_common_9 (by decide +kernel) ?_
  exact W.iret (v := (-1)) hx hb hr (fun t ht hW => ⟨⟨(-1), (), rfl, rfl, trivial⟩, hS.F ht⟩) hS.2.2 dX7_common_10

set_option maxHeartbeats 4000000 in
set_option maxRecDepth 100000 in
theorem c_X7_meet (l : Launch) (dC : Nat → ClassId) (dI : Nat → Nat → Nat) (h0 mnw mhd mas mps msf mdt mhdd masd mpsd msfd mkp mtp mld mmd men mil mqu mbx : Nat) (kI : ClassId) (sz : Nat) (p0 : Int32) (p1 : Int32) (p2 : Int32) : Met l yX7_meet (.code yX7_meet cX7_meet 6 (some .int) :: pw) ({ frames := 3, cells := 0, slots := 0, locals := 68 }) (pc (dC, dI) [.ref h0, .int p0, .int p1, .int p2] sz [(h0, .inr (7, [.ref mnw, .ref mhd, .ref mas, .ref mps, .ref msf, .ref mdt, .ref mhdd, .ref masd, .ref mpsd, .ref msfd, .ref mkp, .int 0, .ref mtp, .int 0, .int 0, .int 0, .int 0, .ref mld, .int 0, .ref mmd, .ref men, .ref mil, .ref mqu, .int 0, .int 0, .ref mbx])), (mnw, .inl (kI, 99, .inl (fun _ => 0)))] [(kI, .int)]) (va_Qi (fun (r : Int32) (_ : Unit) => r = (-2000)) (fun _ _ => True) (fun _ => False)) 0 0 (fun _ => False) := by
  refine Met.ofW (cc := cX7_meet) (maxL := 6) (ret := (some .int)) (by decide +kernel) rfl ?_
  intro p e s m args below meth c s₁ B hml hv
  obtain ⟨rfl, hsz, hP, hK, hD0, hN⟩ := hv
  have hx := B.exec
  have hb := B.bytes
  have hr := B.returns
  have hts := fun w (h : w ∈ pw) => atoms_spec (ws := Cond.code yX7_meet cX7_meet 6 (some .int) :: pw) B.pre w (List.mem_cons_of_mem _ h)
  have hown : s.vm.findClass RX7 = some m.cls := findClass_of_methodNamed B.named
  have hlocks := B.notSynchronized
  subst hsz
  have hD := hD0
  obtain ⟨H, hHe⟩ : ∃ H : Heap, H = s.heap := ⟨_, rfl⟩
  have hS : va_S (fun _ => False) s.heap H [] := by rw [hHe]; exact va_S.rf
  rw [← hHe] at hP
  have hl := lv_entry ([.ref h0, .int p0, .int p1, .int p2]) (n := 6) (Nat.le_of_ble_eq_true rfl)
  rw [lg_entry_eq]
  generalize (lg_sl ([.ref h0, .int p0, .int p1, .int p2]) ++ List.replicate (6 - (lg_sl ([.ref h0, .int p0, .int p1, .int p2])).length) Slot.unset).toArray = ls at hl ⊢
  have hl : lv_has ls 6 [(0, .ref h0), (1, .int p0), (2, .int p1), (3, .int p2)] := hl
  rw [← hHe]
  refine lv_aload_n hx hb dX7_meet_0 rfl (lv_at hl 0 rfl) ?_
  refine lv_iload_n hx hb dX7_meet_1 rfl (lv_at hl 1 rfl) ?_
  refine lv_iload_n hx hb dX7_meet_2 rfl (lv_at hl 2 rfl) ?_
  have hPc := hP.sub (ws' := [(h0, .inr (7, [.ref mnw, .ref mhd, .ref mas, .ref mps, .ref msf, .ref mdt, .ref mhdd, .ref masd, .ref mpsd, .ref msfd, .ref mkp, .int 0, .ref mtp, .int 0, .int 0, .int 0, .int 0, .ref mld, .int 0, .ref mmd, .ref men, .ref mil, .ref mqu, .int 0, .int 0, .ref mbx])), (mnw, .inl (kI, 99, .inl (fun _ => 0)))]) [0, 1] rfl
  have hDc := hD.sub (ws' := [(h0, .inr (7, [.ref mnw, .ref mhd, .ref mas, .ref mps, .ref msf, .ref mdt, .ref mhdd, .ref masd, .ref mpsd, .ref msfd, .ref mkp, .int 0, .ref mtp, .int 0, .int 0, .int 0, .int 0, .ref mld, .int 0, .ref mmd, .ref men, .ref mil, .ref mqu, .int 0, .int 0, .ref mbx])), (mnw, .inl (kI, 99, .inl (fun _ => 0)))]) [0, 1] (by decide) rfl
  have hKc := hK.sub (tys' := [(kI, .int)]) [0] rfl
  refine ro_i (va_runV (As := [.int p0, .int p1]) (rest := []) ⟨hx, hb, hml, hown, hts⟩ (c_X7_areTwo l dC dI h0 mnw mhd mas mps msf mdt mhdd masd mpsd msfd mkp mtp mld mmd men mil mqu mbx kI H.size p0 p1 ) (cwV 2 hts (gV pq1571 pq1573 pq62 pq81 pq1574) rfl rfl rfl (by decide +kernel) ⟨(Nat.le_of_ble_eq_true rfl), (Nat.le_of_ble_eq_true rfl)⟩) (pc_V hPc hDc hKc hN (va_recv hK hP (ci := 7) (q0 := 0) rfl rfl)) rfl rfl hl.1 rfl (lv_room (Nat.le_of_ble_eq_true rfl)) dX7_meet_3 ⟨(Nat.le_of_ble_eq_true rfl), (Nat.le_of_ble_eq_true rfl)⟩) hS hP (fun r1 H locs hr1 hP hS => ?_)
  subst hr1
  refine lv_if_eq (tgt := 19) hx hb dX7_meet_6 (by decide) (fun c2 => ?_) (fun c2 => absurd (by decide +kernel) c2)
  refine lv_sipush (v := (-2000)) hx hb dX7_meet_19 (by decide +kernel) ?_
  exact W.iret (v := (-2000)) hx hb hr (fun t ht hW => ⟨⟨(-2000), (), rfl, rfl, trivial⟩, hS.F ht⟩) hS.2.2 dX7_meet_22
end
section
abbrev cX7_alike : ByteArray := prog_9_method_123_code
abbrev cX7_apart : ByteArray := prog_9_method_105_code
abbrev cX7_best : ByteArray := prog_9_method_106_code
abbrev cX7_dense : ByteArray := prog_9_method_117_code
abbrev cX7_dots : ByteArray := prog_9_method_118_code
abbrev cX7_first : ByteArray := prog_9_method_102_code
abbrev cX7_gap : ByteArray := prog_9_method_104_code
abbrev cX7_island : ByteArray := prog_9_method_110_code
abbrev cX7_letter : ByteArray := prog_9_method_115_code
abbrev cX7_like : ByteArray := prog_9_method_114_code
abbrev cX7_reach : ByteArray := prog_9_method_103_code
abbrev cX7_seen : ByteArray := prog_9_method_109_code
abbrev cX7_share : ByteArray := prog_9_method_121_code
abbrev cX7_shifts : ByteArray := prog_9_method_112_code
abbrev cX7_slope : ByteArray := prog_9_method_107_code
abbrev cX7_spread : ByteArray := prog_9_method_120_code
abbrev cX7_touching : ByteArray := prog_9_method_99_code
def yX7_alike : MethodName := ⟨RX7, "alike", "(III)I"⟩
def yX7_apart : MethodName := ⟨RX7, "apart", "(III)I"⟩
def yX7_best : MethodName := ⟨RX7, "best", "(III)I"⟩
def yX7_dense : MethodName := ⟨RX7, "dense", "(IIII)I"⟩
def yX7_dots : MethodName := ⟨RX7, "dots", "(IZI)I"⟩
def yX7_first : MethodName := ⟨RX7, "first", "(III)I"⟩
def yX7_gap : MethodName := ⟨RX7, "gap", "(III)I"⟩
def yX7_island : MethodName := ⟨RX7, "island", "(III)I"⟩
def yX7_letter : MethodName := ⟨RX7, "letter", "(II)I"⟩
def yX7_like : MethodName := ⟨RX7, "like", "(I)I"⟩
def yX7_reach : MethodName := ⟨RX7, "reach", "(IIII)I"⟩
def yX7_seen : MethodName := ⟨RX7, "seen", "(II)I"⟩
def yX7_share : MethodName := ⟨RX7, "share", "(I)J"⟩
def yX7_shifts : MethodName := ⟨RX7, "shifts", "(II)I"⟩
def yX7_slope : MethodName := ⟨RX7, "slope", "(III)I"⟩
def yX7_spread : MethodName := ⟨RX7, "spread", "(II)I"⟩
def yX7_touching : MethodName := ⟨RX7, "touching", "(I)I"⟩
theorem dX7_alike_0 : decode cX7_alike 0 = .ok (.aload_n 0, 1) := by decide +kernel
theorem dX7_alike_1 : decode cX7_alike 1 = .ok (.iload_n 1, 1) := by decide +kernel
theorem dX7_alike_2 : decode cX7_alike 2 = .ok (.invokevirtual 301, 3) := by decide +kernel
theorem dX7_alike_5 : decode cX7_alike 5 = .ok (.ifCond .eq 36, 3) := by decide +kernel
theorem dX7_alike_41 : decode cX7_alike 41 = .ok (.iconst (-1), 1) := by decide +kernel
theorem dX7_alike_42 : decode cX7_alike 42 = .ok (.ireturn, 1) := by decide +kernel
theorem dX7_apart_0 : decode cX7_apart 0 = .ok (.aload_n 0, 1) := by decide +kernel
theorem dX7_apart_1 : decode cX7_apart 1 = .ok (.iload_n 1, 1) := by decide +kernel
theorem dX7_apart_2 : decode cX7_apart 2 = .ok (.iload_n 2, 1) := by decide +kernel
theorem dX7_apart_3 : decode cX7_apart 3 = .ok (.invokevirtual 382, 3) := by decide +kernel
theorem dX7_apart_6 : decode cX7_apart 6 = .ok (.ifCond .eq 15, 3) := by decide +kernel
theorem dX7_apart_21 : decode cX7_apart 21 = .ok (.sipush (-2000), 3) := by decide +kernel
theorem dX7_apart_24 : decode cX7_apart 24 = .ok (.ireturn, 1) := by decide +kernel
theorem dX7_best_0 : decode cX7_best 0 = .ok (.aload_n 0, 1) := by decide +kernel
theorem dX7_best_1 : decode cX7_best 1 = .ok (.iload_n 1, 1) := by decide +kernel
theorem dX7_best_2 : decode cX7_best 2 = .ok (.iload_n 2, 1) := by decide +kernel
theorem dX7_best_3 : decode cX7_best 3 = .ok (.invokevirtual 382, 3) := by decide +kernel
theorem dX7_best_6 : decode cX7_best 6 = .ok (.ifCond .eq 15, 3) := by decide +kernel
theorem dX7_best_21 : decode cX7_best 21 = .ok (.sipush (-2000), 3) := by decide +kernel
theorem dX7_best_24 : decode cX7_best 24 = .ok (.ireturn, 1) := by decide +kernel
theorem dX7_dense_0 : decode cX7_dense 0 = .ok (.aload_n 0, 1) := by decide +kernel
theorem dX7_dense_1 : decode cX7_dense 1 = .ok (.iload_n 1, 1) := by decide +kernel
theorem dX7_dense_2 : decode cX7_dense 2 = .ok (.invokevirtual 301, 3) := by decide +kernel
theorem dX7_dense_5 : decode cX7_dense 5 = .ok (.ifCond .eq 46, 3) := by decide +kernel
theorem dX7_dense_51 : decode cX7_dense 51 = .ok (.iconst (-1), 1) := by decide +kernel
theorem dX7_dense_52 : decode cX7_dense 52 = .ok (.ireturn, 1) := by decide +kernel
theorem dX7_dots_0 : decode cX7_dots 0 = .ok (.aload_n 0, 1) := by decide +kernel
theorem dX7_dots_1 : decode cX7_dots 1 = .ok (.iload_n 1, 1) := by decide +kernel
theorem dX7_dots_2 : decode cX7_dots 2 = .ok (.invokevirtual 301, 3) := by decide +kernel
theorem dX7_dots_5 : decode cX7_dots 5 = .ok (.ifCond .eq 32, 3) := by decide +kernel
theorem dX7_dots_37 : decode cX7_dots 37 = .ok (.iconst (-1), 1) := by decide +kernel
theorem dX7_dots_38 : decode cX7_dots 38 = .ok (.ireturn, 1) := by decide +kernel
theorem dX7_first_0 : decode cX7_first 0 = .ok (.aload_n 0, 1) := by decide +kernel
theorem dX7_first_1 : decode cX7_first 1 = .ok (.iload_n 1, 1) := by decide +kernel
theorem dX7_first_2 : decode cX7_first 2 = .ok (.iload_n 2, 1) := by decide +kernel
theorem dX7_first_3 : decode cX7_first 3 = .ok (.invokevirtual 382, 3) := by decide +kernel
theorem dX7_first_6 : decode cX7_first 6 = .ok (.ifCond .eq 15, 3) := by decide +kernel
theorem dX7_first_21 : decode cX7_first 21 = .ok (.iconst (-1), 1) := by decide +kernel
theorem dX7_first_22 : decode cX7_first 22 = .ok (.ireturn, 1) := by decide +kernel
theorem dX7_gap_0 : decode cX7_gap 0 = .ok (.aload_n 0, 1) := by decide +kernel
theorem dX7_gap_1 : decode cX7_gap 1 = .ok (.iload_n 1, 1) := by decide +kernel
theorem dX7_gap_2 : decode cX7_gap 2 = .ok (.iload_n 2, 1) := by decide +kernel
theorem dX7_gap_3 : decode cX7_gap 3 = .ok (.invokevirtual 382, 3) := by decide +kernel
theorem dX7_gap_6 : decode cX7_gap 6 = .ok (.ifCond .eq 15, 3) := by decide +kernel
theorem dX7_gap_21 : decode cX7_gap 21 = .ok (.iconst (-1), 1) := by decide +kernel
theorem dX7_gap_22 : decode cX7_gap 22 = .ok (.ireturn, 1) := by decide +kernel
theorem dX7_island_0 : decode cX7_island 0 = .ok (.aload_n 0, 1) := by decide +kernel
theorem dX7_island_1 : decode cX7_island 1 = .ok (.iload_n 1, 1) := by decide +kernel
theorem dX7_island_2 : decode cX7_island 2 = .ok (.invokevirtual 301, 3) := by decide +kernel
theorem dX7_island_5 : decode cX7_island 5 = .ok (.ifCond .ne 5, 3) := by decide +kernel
theorem dX7_island_8 : decode cX7_island 8 = .ok (.iconst (-1), 1) := by decide +kernel
theorem dX7_island_9 : decode cX7_island 9 = .ok (.ireturn, 1) := by decide +kernel
theorem dX7_letter_0 : decode cX7_letter 0 = .ok (.aload_n 0, 1) := by decide +kernel
theorem dX7_letter_1 : decode cX7_letter 1 = .ok (.iload_n 1, 1) := by decide +kernel
theorem dX7_letter_2 : decode cX7_letter 2 = .ok (.invokevirtual 301, 3) := by decide +kernel
theorem dX7_letter_5 : decode cX7_letter 5 = .ok (.ifCond .eq 8, 3) := by decide +kernel
theorem dX7_letter_13 : decode cX7_letter 13 = .ok (.iconst (-1), 1) := by decide +kernel
theorem dX7_letter_14 : decode cX7_letter 14 = .ok (.ireturn, 1) := by decide +kernel
theorem dX7_like_0 : decode cX7_like 0 = .ok (.aload_n 0, 1) := by decide +kernel
theorem dX7_like_1 : decode cX7_like 1 = .ok (.iload_n 1, 1) := by decide +kernel
theorem dX7_like_2 : decode cX7_like 2 = .ok (.invokevirtual 301, 3) := by decide +kernel
theorem dX7_like_5 : decode cX7_like 5 = .ok (.ifCond .ne 5, 3) := by decide +kernel
theorem dX7_like_8 : decode cX7_like 8 = .ok (.iconst (-1), 1) := by decide +kernel
theorem dX7_like_9 : decode cX7_like 9 = .ok (.ireturn, 1) := by decide +kernel
theorem dX7_reach_0 : decode cX7_reach 0 = .ok (.aload_n 0, 1) := by decide +kernel
theorem dX7_reach_1 : decode cX7_reach 1 = .ok (.iload_n 1, 1) := by decide +kernel
theorem dX7_reach_2 : decode cX7_reach 2 = .ok (.invokevirtual 196, 3) := by decide +kernel
theorem dX7_reach_5 : decode cX7_reach 5 = .ok (.ifCond .eq 22, 3) := by decide +kernel
theorem dX7_reach_27 : decode cX7_reach 27 = .ok (.iconst (-1), 1) := by decide +kernel
theorem dX7_reach_28 : decode cX7_reach 28 = .ok (.ireturn, 1) := by decide +kernel
theorem dX7_seen_0 : decode cX7_seen 0 = .ok (.aload_n 0, 1) := by decide +kernel
theorem dX7_seen_1 : decode cX7_seen 1 = .ok (.iload_n 1, 1) := by decide +kernel
theorem dX7_seen_2 : decode cX7_seen 2 = .ok (.iload_n 2, 1) := by decide +kernel
theorem dX7_seen_3 : decode cX7_seen 3 = .ok (.invokevirtual 382, 3) := by decide +kernel
theorem dX7_seen_6 : decode cX7_seen 6 = .ok (.ifCond .eq 11, 3) := by decide +kernel
theorem dX7_seen_17 : decode cX7_seen 17 = .ok (.iconst (-1), 1) := by decide +kernel
theorem dX7_seen_18 : decode cX7_seen 18 = .ok (.ireturn, 1) := by decide +kernel
theorem dX7_share_0 : decode cX7_share 0 = .ok (.aload_n 0, 1) := by decide +kernel
theorem dX7_share_1 : decode cX7_share 1 = .ok (.iload_n 1, 1) := by decide +kernel
theorem dX7_share_2 : decode cX7_share 2 = .ok (.invokevirtual 301, 3) := by decide +kernel
theorem dX7_share_5 : decode cX7_share 5 = .ok (.ifCond .eq 28, 3) := by decide +kernel
theorem dX7_share_33 : decode cX7_share 33 = .ok (.ldc2_w 432, 3) := by decide +kernel
theorem dX7_share_36 : decode cX7_share 36 = .ok (.lreturn, 1) := by decide +kernel
theorem dX7_shifts_0 : decode cX7_shifts 0 = .ok (.aload_n 0, 1) := by decide +kernel
theorem dX7_shifts_1 : decode cX7_shifts 1 = .ok (.iload_n 1, 1) := by decide +kernel
theorem dX7_shifts_2 : decode cX7_shifts 2 = .ok (.invokevirtual 301, 3) := by decide +kernel
theorem dX7_shifts_5 : decode cX7_shifts 5 = .ok (.ifCond .eq 11, 3) := by decide +kernel
theorem dX7_shifts_16 : decode cX7_shifts 16 = .ok (.iconst (-1), 1) := by decide +kernel
theorem dX7_shifts_17 : decode cX7_shifts 17 = .ok (.ireturn, 1) := by decide +kernel
theorem dX7_slope_0 : decode cX7_slope 0 = .ok (.aload_n 0, 1) := by decide +kernel
theorem dX7_slope_1 : decode cX7_slope 1 = .ok (.iload_n 1, 1) := by decide +kernel
theorem dX7_slope_2 : decode cX7_slope 2 = .ok (.iload_n 2, 1) := by decide +kernel
theorem dX7_slope_3 : decode cX7_slope 3 = .ok (.invokevirtual 382, 3) := by decide +kernel
theorem dX7_slope_6 : decode cX7_slope 6 = .ok (.ifCond .eq 13, 3) := by decide +kernel
theorem dX7_slope_19 : decode cX7_slope 19 = .ok (.ldc_w 404, 3) := by decide +kernel
theorem dX7_slope_22 : decode cX7_slope 22 = .ok (.ireturn, 1) := by decide +kernel
theorem dX7_spread_0 : decode cX7_spread 0 = .ok (.aload_n 0, 1) := by decide +kernel
theorem dX7_spread_1 : decode cX7_spread 1 = .ok (.iload_n 1, 1) := by decide +kernel
theorem dX7_spread_2 : decode cX7_spread 2 = .ok (.invokevirtual 301, 3) := by decide +kernel
theorem dX7_spread_5 : decode cX7_spread 5 = .ok (.ifCond .eq 15, 3) := by decide +kernel
theorem dX7_spread_20 : decode cX7_spread 20 = .ok (.iconst (-1), 1) := by decide +kernel
theorem dX7_spread_21 : decode cX7_spread 21 = .ok (.ireturn, 1) := by decide +kernel
theorem dX7_touching_0 : decode cX7_touching 0 = .ok (.aload_n 0, 1) := by decide +kernel
theorem dX7_touching_1 : decode cX7_touching 1 = .ok (.iload_n 1, 1) := by decide +kernel
theorem dX7_touching_2 : decode cX7_touching 2 = .ok (.invokevirtual 196, 3) := by decide +kernel
theorem dX7_touching_5 : decode cX7_touching 5 = .ok (.ifCond .ne 5, 3) := by decide +kernel
theorem dX7_touching_8 : decode cX7_touching 8 = .ok (.iconst (-1), 1) := by decide +kernel
theorem dX7_touching_9 : decode cX7_touching 9 = .ok (.ireturn, 1) := by decide +kernel
set_option maxRecDepth 100000 in
theorem pq1641 : Cond.constant RX7 404 (-2000000) ∈ pw := pw_mem (i := 1641) (by decide +kernel) rfl
set_option maxRecDepth 100000 in
theorem pq1712 : Cond.constantLong RX7 432 (-1) ∈ pw := pw_mem (i := 1712) (by decide +kernel) rfl
set_option maxHeartbeats 4000000 in
set_option maxRecDepth 100000 in
theorem c_X7_touching (l : Launch) (dC : Nat → ClassId) (dI : Nat → Nat → Nat) (h0 mnw mhd mas mps msf mdt mhdd masd mpsd msfd mkp mtp mld mmd men mil mqu mbx : Nat) (kI : ClassId) (sz : Nat) (p0 : Int32) : Met l yX7_touching (.code yX7_touching cX7_touching 2 (some .int) :: pw) ({ frames := 2, cells := 0, slots := 0, locals := 46 }) (pc (dC, dI) [.ref h0, .int p0] sz [(h0, .inr (7, [.ref mnw, .ref mhd, .ref mas, .ref mps, .ref msf, .ref mdt, .ref mhdd, .ref masd, .ref mpsd, .ref msfd, .ref mkp, .int 0, .ref mtp, .int 0, .int 0, .int 0, .int 0, .ref mld, .int 0, .ref mmd, .ref men, .ref mil, .ref mqu, .int 0, .int 0, .ref mbx])), (mnw, .inl (kI, 99, .inl (fun _ => 0)))] [(kI, .int)]) (va_Qi (fun (r : Int32) (_ : Unit) => r = (-1)) (fun _ _ => True) (fun _ => False)) 0 0 (fun _ => False) := by
  refine Met.ofW (cc := cX7_touching) (maxL := 2) (ret := (some .int)) (by decide +kernel) rfl ?_
  intro p e s m args below meth c s₁ B hml hv
  obtain ⟨rfl, hsz, hP, hK, hD0, hN⟩ := hv
  have hx := B.exec
  have hb := B.bytes
  have hr := B.returns
  have hts := fun w (h : w ∈ pw) => atoms_spec (ws := Cond.code yX7_touching cX7_touching 2 (some .int) :: pw) B.pre w (List.mem_cons_of_mem _ h)
  have hown : s.vm.findClass RX7 = some m.cls := findClass_of_methodNamed B.named
  have hlocks := B.notSynchronized
  subst hsz
  have hD := hD0
  obtain ⟨H, hHe⟩ : ∃ H : Heap, H = s.heap := ⟨_, rfl⟩
  have hS : va_S (fun _ => False) s.heap H [] := by rw [hHe]; exact va_S.rf
  rw [← hHe] at hP
  have hl := lv_entry ([.ref h0, .int p0]) (n := 2) (Nat.le_of_ble_eq_true rfl)
  rw [lg_entry_eq]
  generalize (lg_sl ([.ref h0, .int p0]) ++ List.replicate (2 - (lg_sl ([.ref h0, .int p0])).length) Slot.unset).toArray = ls at hl ⊢
  have hl : lv_has ls 2 [(0, .ref h0), (1, .int p0)] := hl
  rw [← hHe]
  refine lv_aload_n hx hb dX7_touching_0 rfl (lv_at hl 0 rfl) ?_
  refine lv_iload_n hx hb dX7_touching_1 rfl (lv_at hl 1 rfl) ?_
  have hPc := hP.sub (ws' := [(h0, .inr (7, [.ref mnw, .ref mhd, .ref mas, .ref mps, .ref msf, .ref mdt, .ref mhdd, .ref masd, .ref mpsd, .ref msfd, .ref mkp, .int 0, .ref mtp, .int 0, .int 0, .int 0, .int 0, .ref mld, .int 0, .ref mmd, .ref men, .ref mil, .ref mqu, .int 0, .int 0, .ref mbx])), (mnw, .inl (kI, 99, .inl (fun _ => 0)))]) [0, 1] rfl
  have hDc := hD.sub (ws' := [(h0, .inr (7, [.ref mnw, .ref mhd, .ref mas, .ref mps, .ref msf, .ref mdt, .ref mhdd, .ref masd, .ref mpsd, .ref msfd, .ref mkp, .int 0, .ref mtp, .int 0, .int 0, .int 0, .int 0, .ref mld, .int 0, .ref mmd, .ref men, .ref mil, .ref mqu, .int 0, .int 0, .ref mbx])), (mnw, .inl (kI, 99, .inl (fun _ => 0)))]) [0, 1] (by decide) rfl
  have hKc := hK.sub (tys' := [(kI, .int)]) [0] rfl
  refine ro_i (va_runV (As := [.int p0]) (rest := []) ⟨hx, hb, hml, hown, hts⟩ (c_X7_isBody l dC dI h0 mnw mhd mas mps msf mdt mhdd masd mpsd msfd mkp mtp mld mmd men mil mqu mbx kI H.size p0 ) (cwV 1 hts (gV pq1310 pq1312 pq23 pq81 pq1313) rfl rfl rfl (by decide +kernel) ⟨(Nat.le_of_ble_eq_true rfl), (Nat.le_of_ble_eq_true rfl)⟩) (pc_V hPc hDc hKc hN (va_recv hK hP (ci := 7) (q0 := 0) rfl rfl)) rfl rfl hl.1 rfl (lv_room (Nat.le_of_ble_eq_true rfl)) dX7_touching_2 ⟨(Nat.le_of_ble_eq_true rfl), (Nat.le_of_ble_eq_true rfl)⟩) hS hP (fun r1 H locs hr1 hP hS => ?_)
  subst hr1
  refine lv_if_ne (tgt := 10) hx hb dX7_touching_5 (by decide) (fun c2 => absurd (by decide +kernel) c2) (fun c2 => ?_)
  refine lv_iconst (v := (-1)) hx hb dX7_touching_8 (by decide +kernel) ?_
  exact W.iret (v := (-1)) hx hb hr (fun t ht hW => ⟨⟨(-1), (), rfl, rfl, trivial⟩, hS.F ht⟩) hS.2.2 dX7_touching_9

set_option maxHeartbeats 4000000 in
set_option maxRecDepth 100000 in
theorem c_X7_first (l : Launch) (dC : Nat → ClassId) (dI : Nat → Nat → Nat) (h0 mnw mhd mas mps msf mdt mhdd masd mpsd msfd mkp mtp mld mmd men mil mqu mbx : Nat) (kI : ClassId) (sz : Nat) (p0 : Int32) (p1 : Int32) (p2 : Int32) : Met l yX7_first (.code yX7_first cX7_first 7 (some .int) :: pw) ({ frames := 3, cells := 0, slots := 0, locals := 68 }) (pc (dC, dI) [.ref h0, .int p0, .int p1, .int p2] sz [(h0, .inr (7, [.ref mnw, .ref mhd, .ref mas, .ref mps, .ref msf, .ref mdt, .ref mhdd, .ref masd, .ref mpsd, .ref msfd, .ref mkp, .int 0, .ref mtp, .int 0, .int 0, .int 0, .int 0, .ref mld, .int 0, .ref mmd, .ref men, .ref mil, .ref mqu, .int 0, .int 0, .ref mbx])), (mnw, .inl (kI, 99, .inl (fun _ => 0)))] [(kI, .int)]) (va_Qi (fun (r : Int32) (_ : Unit) => r = (-1)) (fun _ _ => True) (fun _ => False)) 0 0 (fun _ => False) := by
  refine Met.ofW (cc := cX7_first) (maxL := 7) (ret := (some .int)) (by decide +kernel) rfl ?_
  intro p e s m args below meth c s₁ B hml hv
  obtain ⟨rfl, hsz, hP, hK, hD0, hN⟩ := hv
  have hx := B.exec
  have hb := B.bytes
  have hr := B.returns
  have hts := fun w (h : w ∈ pw) => atoms_spec (ws := Cond.code yX7_first cX7_first 7 (some .int) :: pw) B.pre w (List.mem_cons_of_mem _ h)
  have hown : s.vm.findClass RX7 = some m.cls := findClass_of_methodNamed B.named
  have hlocks := B.notSynchronized
  subst hsz
  have hD := hD0
  obtain ⟨H, hHe⟩ : ∃ H : Heap, H = s.heap := ⟨_, rfl⟩
  have hS : va_S (fun _ => False) s.heap H [] := by rw [hHe]; exact va_S.rf
  rw [← hHe] at hP
  have hl := lv_entry ([.ref h0, .int p0, .int p1, .int p2]) (n := 7) (Nat.le_of_ble_eq_true rfl)
  rw [lg_entry_eq]
  generalize (lg_sl ([.ref h0, .int p0, .int p1, .int p2]) ++ List.replicate (7 - (lg_sl ([.ref h0, .int p0, .int p1, .int p2])).length) Slot.unset).toArray = ls at hl ⊢
  have hl : lv_has ls 7 [(0, .ref h0), (1, .int p0), (2, .int p1), (3, .int p2)] := hl
  rw [← hHe]
  refine lv_aload_n hx hb dX7_first_0 rfl (lv_at hl 0 rfl) ?_
  refine lv_iload_n hx hb dX7_first_1 rfl (lv_at hl 1 rfl) ?_
  refine lv_iload_n hx hb dX7_first_2 rfl (lv_at hl 2 rfl) ?_
  have hPc := hP.sub (ws' := [(h0, .inr (7, [.ref mnw, .ref mhd, .ref mas, .ref mps, .ref msf, .ref mdt, .ref mhdd, .ref masd, .ref mpsd, .ref msfd, .ref mkp, .int 0, .ref mtp, .int 0, .int 0, .int 0, .int 0, .ref mld, .int 0, .ref mmd, .ref men, .ref mil, .ref mqu, .int 0, .int 0, .ref mbx])), (mnw, .inl (kI, 99, .inl (fun _ => 0)))]) [0, 1] rfl
  have hDc := hD.sub (ws' := [(h0, .inr (7, [.ref mnw, .ref mhd, .ref mas, .ref mps, .ref msf, .ref mdt, .ref mhdd, .ref masd, .ref mpsd, .ref msfd, .ref mkp, .int 0, .ref mtp, .int 0, .int 0, .int 0, .int 0, .ref mld, .int 0, .ref mmd, .ref men, .ref mil, .ref mqu, .int 0, .int 0, .ref mbx])), (mnw, .inl (kI, 99, .inl (fun _ => 0)))]) [0, 1] (by decide) rfl
  have hKc := hK.sub (tys' := [(kI, .int)]) [0] rfl
  refine ro_i (va_runV (As := [.int p0, .int p1]) (rest := []) ⟨hx, hb, hml, hown, hts⟩ (c_X7_areTwo l dC dI h0 mnw mhd mas mps msf mdt mhdd masd mpsd msfd mkp mtp mld mmd men mil mqu mbx kI H.size p0 p1 ) (cwV 2 hts (gV pq1571 pq1573 pq62 pq81 pq1574) rfl rfl rfl (by decide +kernel) ⟨(Nat.le_of_ble_eq_true rfl), (Nat.le_of_ble_eq_true rfl)⟩) (pc_V hPc hDc hKc hN (va_recv hK hP (ci := 7) (q0 := 0) rfl rfl)) rfl rfl hl.1 rfl (lv_room (Nat.le_of_ble_eq_true rfl)) dX7_first_3 ⟨(Nat.le_of_ble_eq_true rfl), (Nat.le_of_ble_eq_true rfl)⟩) hS hP (fun r1 H locs hr1 hP hS => ?_)
  subst hr1
  refine lv_if_eq (tgt := 21) hx hb dX7_first_6 (by decide) (fun c2 => ?_) (fun c2 => absurd (by decide +kernel) c2)
  refine lv_iconst (v := (-1)) hx hb dX7_first_21 (by decide +kernel) ?_
  exact W.iret (v := (-1)) hx hb hr (fun t ht hW => ⟨⟨(-1), (), rfl, rfl, trivial⟩, hS.F ht⟩) hS.2.2 dX7_first_22

set_option maxHeartbeats 4000000 in
set_option maxRecDepth 100000 in
theorem c_X7_reach (l : Launch) (dC : Nat → ClassId) (dI : Nat → Nat → Nat) (h0 mnw mhd mas mps msf mdt mhdd masd mpsd msfd mkp mtp mld mmd men mil mqu mbx : Nat) (kI : ClassId) (sz : Nat) (p0 : Int32) (p1 : Int32) (p2 : Int32) (p3 : Int32) : Met l yX7_reach (.code yX7_reach cX7_reach 6 (some .int) :: pw) ({ frames := 2, cells := 0, slots := 0, locals := 46 }) (pc (dC, dI) [.ref h0, .int p0, .int p1, .int p2, .int p3] sz [(h0, .inr (7, [.ref mnw, .ref mhd, .ref mas, .ref mps, .ref msf, .ref mdt, .ref mhdd, .ref masd, .ref mpsd, .ref msfd, .ref mkp, .int 0, .ref mtp, .int 0, .int 0, .int 0, .int 0, .ref mld, .int 0, .ref mmd, .ref men, .ref mil, .ref mqu, .int 0, .int 0, .ref mbx])), (mnw, .inl (kI, 99, .inl (fun _ => 0)))] [(kI, .int)]) (va_Qi (fun (r : Int32) (_ : Unit) => r = (-1)) (fun _ _ => True) (fun _ => False)) 0 0 (fun _ => False) := by
  refine Met.ofW (cc := cX7_reach) (maxL := 6) (ret := (some .int)) (by decide +kernel) rfl ?_
  intro p e s m args below meth c s₁ B hml hv
  obtain ⟨rfl, hsz, hP, hK, hD0, hN⟩ := hv
  have hx := B.exec
  have hb := B.bytes
  have hr := B.returns
  have hts := fun w (h : w ∈ pw) => atoms_spec (ws := Cond.code yX7_reach cX7_reach 6 (some .int) :: pw) B.pre w (List.mem_cons_of_mem _ h)
  have hown : s.vm.findClass RX7 = some m.cls := findClass_of_methodNamed B.named
  have hlocks := B.notSynchronized
  subst hsz
  have hD := hD0
  obtain ⟨H, hHe⟩ : ∃ H : Heap, H = s.heap := ⟨_, rfl⟩
  have hS : va_S (fun _ => False) s.heap H [] := by rw [hHe]; exact va_S.rf
  rw [← hHe] at hP
  have hl := lv_entry ([.ref h0, .int p0, .int p1, .int p2, .int p3]) (n := 6) (Nat.le_of_ble_eq_true rfl)
  rw [lg_entry_eq]
  generalize (lg_sl ([.ref h0, .int p0, .int p1, .int p2, .int p3]) ++ List.replicate (6 - (lg_sl ([.ref h0, .int p0, .int p1, .int p2, .int p3])).length) Slot.unset).toArray = ls at hl ⊢
  have hl : lv_has ls 6 [(0, .ref h0), (1, .int p0), (2, .int p1), (3, .int p2), (4, .int p3)] := hl
  rw [← hHe]
  refine lv_aload_n hx hb dX7_reach_0 rfl (lv_at hl 0 rfl) ?_
  refine lv_iload_n hx hb dX7_reach_1 rfl (lv_at hl 1 rfl) ?_
  have hPc := hP.sub (ws' := [(h0, .inr (7, [.ref mnw, .ref mhd, .ref mas, .ref mps, .ref msf, .ref mdt, .ref mhdd, .ref masd, .ref mpsd, .ref msfd, .ref mkp, .int 0, .ref mtp, .int 0, .int 0, .int 0, .int 0, .ref mld, .int 0, .ref mmd, .ref men, .ref mil, .ref mqu, .int 0, .int 0, .ref mbx])), (mnw, .inl (kI, 99, .inl (fun _ => 0)))]) [0, 1] rfl
  have hDc := hD.sub (ws' := [(h0, .inr (7, [.ref mnw, .ref mhd, .ref mas, .ref mps, .ref msf, .ref mdt, .ref mhdd, .ref masd, .ref mpsd, .ref msfd, .ref mkp, .int 0, .ref mtp, .int 0, .int 0, .int 0, .int 0, .ref mld, .int 0, .ref mmd, .ref men, .ref mil, .ref mqu, .int 0, .int 0, .ref mbx])), (mnw, .inl (kI, 99, .inl (fun _ => 0)))]) [0, 1] (by decide) rfl
  have hKc := hK.sub (tys' := [(kI, .int)]) [0] rfl
  refine ro_i (va_runV (As := [.int p0]) (rest := []) ⟨hx, hb, hml, hown, hts⟩ (c_X7_isBody l dC dI h0 mnw mhd mas mps msf mdt mhdd masd mpsd msfd mkp mtp mld mmd men mil mqu mbx kI H.size p0 ) (cwV 1 hts (gV pq1310 pq1312 pq23 pq81 pq1313) rfl rfl rfl (by decide +kernel) ⟨(Nat.le_of_ble_eq_true rfl), (Nat.le_of_ble_eq_true rfl)⟩) (pc_V hPc hDc hKc hN (va_recv hK hP (ci := 7) (q0 := 0) rfl rfl)) rfl rfl hl.1 rfl (lv_room (Nat.le_of_ble_eq_true rfl)) dX7_reach_2 ⟨(Nat.le_of_ble_eq_true rfl), (Nat.le_of_ble_eq_true rfl)⟩) hS hP (fun r1 H locs hr1 hP hS => ?_)
  subst hr1
  refine lv_if_eq (tgt := 27) hx hb dX7_reach_5 (by decide) (fun c2 => ?_) (fun c2 => absurd (by decide +kernel) c2)
  refine lv_iconst (v := (-1)) hx hb dX7_reach_27 (by decide +kernel) ?_
  exact W.iret (v := (-1)) hx hb hr (fun t ht hW => ⟨⟨(-1), (), rfl, rfl, trivial⟩, hS.F ht⟩) hS.2.2 dX7_reach_28

set_option maxHeartbeats 4000000 in
set_option maxRecDepth 100000 in
theorem c_X7_gap (l : Launch) (dC : Nat → ClassId) (dI : Nat → Nat → Nat) (h0 mnw mhd mas mps msf mdt mhdd masd mpsd msfd mkp mtp mld mmd men mil mqu mbx : Nat) (kI : ClassId) (sz : Nat) (p0 : Int32) (p1 : Int32) (p2 : Int32) : Met l yX7_gap (.code yX7_gap cX7_gap 5 (some .int) :: pw) ({ frames := 3, cells := 0, slots := 0, locals := 68 }) (pc (dC, dI) [.ref h0, .int p0, .int p1, .int p2] sz [(h0, .inr (7, [.ref mnw, .ref mhd, .ref mas, .ref mps, .ref msf, .ref mdt, .ref mhdd, .ref masd, .ref mpsd, .ref msfd, .ref mkp, .int 0, .ref mtp, .int 0, .int 0, .int 0, .int 0, .ref mld, .int 0, .ref mmd, .ref men, .ref mil, .ref mqu, .int 0, .int 0, .ref mbx])), (mnw, .inl (kI, 99, .inl (fun _ => 0)))] [(kI, .int)]) (va_Qi (fun (r : Int32) (_ : Unit) => r = (-1)) (fun _ _ => True) (fun _ => False)) 0 0 (fun _ => False) := by
  refine Met.ofW (cc := cX7_gap) (maxL := 5) (ret := (some .int)) (by decide +kernel) rfl ?_
  intro p e s m args below meth c s₁ B hml hv
  obtain ⟨rfl, hsz, hP, hK, hD0, hN⟩ := hv
  have hx := B.exec
  have hb := B.bytes
  have hr := B.returns
  have hts := fun w (h : w ∈ pw) => atoms_spec (ws := Cond.code yX7_gap cX7_gap 5 (some .int) :: pw) B.pre w (List.mem_cons_of_mem _ h)
  have hown : s.vm.findClass RX7 = some m.cls := findClass_of_methodNamed B.named
  have hlocks := B.notSynchronized
  subst hsz
  have hD := hD0
  obtain ⟨H, hHe⟩ : ∃ H : Heap, H = s.heap := ⟨_, rfl⟩
  have hS : va_S (fun _ => False) s.heap H [] := by rw [hHe]; exact va_S.rf
  rw [← hHe] at hP
  have hl := lv_entry ([.ref h0, .int p0, .int p1, .int p2]) (n := 5) (Nat.le_of_ble_eq_true rfl)
  rw [lg_entry_eq]
  generalize (lg_sl ([.ref h0, .int p0, .int p1, .int p2]) ++ List.replicate (5 - (lg_sl ([.ref h0, .int p0, .int p1, .int p2])).length) Slot.unset).toArray = ls at hl ⊢
  have hl : lv_has ls 5 [(0, .ref h0), (1, .int p0), (2, .int p1), (3, .int p2)] := hl
  rw [← hHe]
  refine lv_aload_n hx hb dX7_gap_0 rfl (lv_at hl 0 rfl) ?_
  refine lv_iload_n hx hb dX7_gap_1 rfl (lv_at hl 1 rfl) ?_
  refine lv_iload_n hx hb dX7_gap_2 rfl (lv_at hl 2 rfl) ?_
  have hPc := hP.sub (ws' := [(h0, .inr (7, [.ref mnw, .ref mhd, .ref mas, .ref mps, .ref msf, .ref mdt, .ref mhdd, .ref masd, .ref mpsd, .ref msfd, .ref mkp, .int 0, .ref mtp, .int 0, .int 0, .int 0, .int 0, .ref mld, .int 0, .ref mmd, .ref men, .ref mil, .ref mqu, .int 0, .int 0, .ref mbx])), (mnw, .inl (kI, 99, .inl (fun _ => 0)))]) [0, 1] rfl
  have hDc := hD.sub (ws' := [(h0, .inr (7, [.ref mnw, .ref mhd, .ref mas, .ref mps, .ref msf, .ref mdt, .ref mhdd, .ref masd, .ref mpsd, .ref msfd, .ref mkp, .int 0, .ref mtp, .int 0, .int 0, .int 0, .int 0, .ref mld, .int 0, .ref mmd, .ref men, .ref mil, .ref mqu, .int 0, .int 0, .ref mbx])), (mnw, .inl (kI, 99, .inl (fun _ => 0)))]) [0, 1] (by decide) rfl
  have hKc := hK.sub (tys' := [(kI, .int)]) [0] rfl
  refine ro_i (va_runV (As := [.int p0, .int p1]) (rest := []) ⟨hx, hb, hml, hown, hts⟩ (c_X7_areTwo l dC dI h0 mnw mhd mas mps msf mdt mhdd masd mpsd msfd mkp mtp mld mmd men mil mqu mbx kI H.size p0 p1 ) (cwV 2 hts (gV pq1571 pq1573 pq62 pq81 pq1574) rfl rfl rfl (by decide +kernel) ⟨(Nat.le_of_ble_eq_true rfl), (Nat.le_of_ble_eq_true rfl)⟩) (pc_V hPc hDc hKc hN (va_recv hK hP (ci := 7) (q0 := 0) rfl rfl)) rfl rfl hl.1 rfl (lv_room (Nat.le_of_ble_eq_true rfl)) dX7_gap_3 ⟨(Nat.le_of_ble_eq_true rfl), (Nat.le_of_ble_eq_true rfl)⟩) hS hP (fun r1 H locs hr1 hP hS => ?_)
  subst hr1
  refine lv_if_eq (tgt := 21) hx hb dX7_gap_6 (by decide) (fun c2 => ?_) (fun c2 => absurd (by decide +kernel) c2)
  refine lv_iconst (v := (-1)) hx hb dX7_gap_21 (by decide +kernel) ?_
  exact W.iret (v := (-1)) hx hb hr (fun t ht hW => ⟨⟨(-1), (), rfl, rfl, trivial⟩, hS.F ht⟩) hS.2.2 dX7_gap_22

set_option maxHeartbeats 4000000 in
set_option maxRecDepth 100000 in
theorem c_X7_apart (l : Launch) (dC : Nat → ClassId) (dI : Nat → Nat → Nat) (h0 mnw mhd mas mps msf mdt mhdd masd mpsd msfd mkp mtp mld mmd men mil mqu mbx : Nat) (kI : ClassId) (sz : Nat) (p0 : Int32) (p1 : Int32) (p2 : Int32) : Met l yX7_apart (.code yX7_apart cX7_apart 8 (some .int) :: pw) ({ frames := 3, cells := 0, slots := 0, locals := 68 }) (pc (dC, dI) [.ref h0, .int p0, .int p1, .int p2] sz [(h0, .inr (7, [.ref mnw, .ref mhd, .ref mas, .ref mps, .ref msf, .ref mdt, .ref mhdd, .ref masd, .ref mpsd, .ref msfd, .ref mkp, .int 0, .ref mtp, .int 0, .int 0, .int 0, .int 0, .ref mld, .int 0, .ref mmd, .ref men, .ref mil, .ref mqu, .int 0, .int 0, .ref mbx])), (mnw, .inl (kI, 99, .inl (fun _ => 0)))] [(kI, .int)]) (va_Qi (fun (r : Int32) (_ : Unit) => r = (-2000)) (fun _ _ => True) (fun _ => False)) 0 0 (fun _ => False) := by
  refine Met.ofW (cc := cX7_apart) (maxL := 8) (ret := (some .int)) (by decide +kernel) rfl ?_
  intro p e s m args below meth c s₁ B hml hv
  obtain ⟨rfl, hsz, hP, hK, hD0, hN⟩ := hv
  have hx := B.exec
  have hb := B.bytes
  have hr := B.returns
  have hts := fun w (h : w ∈ pw) => atoms_spec (ws := Cond.code yX7_apart cX7_apart 8 (some .int) :: pw) B.pre w (List.mem_cons_of_mem _ h)
  have hown : s.vm.findClass RX7 = some m.cls := findClass_of_methodNamed B.named
  have hlocks := B.notSynchronized
  subst hsz
  have hD := hD0
  obtain ⟨H, hHe⟩ : ∃ H : Heap, H = s.heap := ⟨_, rfl⟩
  have hS : va_S (fun _ => False) s.heap H [] := by rw [hHe]; exact va_S.rf
  rw [← hHe] at hP
  have hl := lv_entry ([.ref h0, .int p0, .int p1, .int p2]) (n := 8) (Nat.le_of_ble_eq_true rfl)
  rw [lg_entry_eq]
  generalize (lg_sl ([.ref h0, .int p0, .int p1, .int p2]) ++ List.replicate (8 - (lg_sl ([.ref h0, .int p0, .int p1, .int p2])).length) Slot.unset).toArray = ls at hl ⊢
  have hl : lv_has ls 8 [(0, .ref h0), (1, .int p0), (2, .int p1), (3, .int p2)] := hl
  rw [← hHe]
  refine lv_aload_n hx hb dX7_apart_0 rfl (lv_at hl 0 rfl) ?_
  refine lv_iload_n hx hb dX7_apart_1 rfl (lv_at hl 1 rfl) ?_
  refine lv_iload_n hx hb dX7_apart_2 rfl (lv_at hl 2 rfl) ?_
  have hPc := hP.sub (ws' := [(h0, .inr (7, [.ref mnw, .ref mhd, .ref mas, .ref mps, .ref msf, .ref mdt, .ref mhdd, .ref masd, .ref mpsd, .ref msfd, .ref mkp, .int 0, .ref mtp, .int 0, .int 0, .int 0, .int 0, .ref mld, .int 0, .ref mmd, .ref men, .ref mil, .ref mqu, .int 0, .int 0, .ref mbx])), (mnw, .inl (kI, 99, .inl (fun _ => 0)))]) [0, 1] rfl
  have hDc := hD.sub (ws' := [(h0, .inr (7, [.ref mnw, .ref mhd, .ref mas, .ref mps, .ref msf, .ref mdt, .ref mhdd, .ref masd, .ref mpsd, .ref msfd, .ref mkp, .int 0, .ref mtp, .int 0, .int 0, .int 0, .int 0, .ref mld, .int 0, .ref mmd, .ref men, .ref mil, .ref mqu, .int 0, .int 0, .ref mbx])), (mnw, .inl (kI, 99, .inl (fun _ => 0)))]) [0, 1] (by decide) rfl
  have hKc := hK.sub (tys' := [(kI, .int)]) [0] rfl
  refine ro_i (va_runV (As := [.int p0, .int p1]) (rest := []) ⟨hx, hb, hml, hown, hts⟩ (c_X7_areTwo l dC dI h0 mnw mhd mas mps msf mdt mhdd masd mpsd msfd mkp mtp mld mmd men mil mqu mbx kI H.size p0 p1 ) (cwV 2 hts (gV pq1571 pq1573 pq62 pq81 pq1574) rfl rfl rfl (by decide +kernel) ⟨(Nat.le_of_ble_eq_true rfl), (Nat.le_of_ble_eq_true rfl)⟩) (pc_V hPc hDc hKc hN (va_recv hK hP (ci := 7) (q0 := 0) rfl rfl)) rfl rfl hl.1 rfl (lv_room (Nat.le_of_ble_eq_true rfl)) dX7_apart_3 ⟨(Nat.le_of_ble_eq_true rfl), (Nat.le_of_ble_eq_true rfl)⟩) hS hP (fun r1 H locs hr1 hP hS => ?_)
  subst hr1
  refine lv_if_eq (tgt := 21) hx hb dX7_apart_6 (by decide) (fun c2 => ?_) (fun c2 => absurd (by decide +kernel) c2)
  refine lv_sipush (v := (-2000)) hx hb dX7_apart_21 (by decide +kernel) ?_
  exact W.iret (v := (-2000)) hx hb hr (fun t ht hW => ⟨⟨(-2000), (), rfl, rfl, trivial⟩, hS.F ht⟩) hS.2.2 dX7_apart_24

set_option maxHeartbeats 4000000 in
set_option maxRecDepth 100000 in
theorem c_X7_best (l : Launch) (dC : Nat → ClassId) (dI : Nat → Nat → Nat) (h0 mnw mhd mas mps msf mdt mhdd masd mpsd msfd mkp mtp mld mmd men mil mqu mbx : Nat) (kI : ClassId) (sz : Nat) (p0 : Int32) (p1 : Int32) (p2 : Int32) : Met l yX7_best (.code yX7_best cX7_best 10 (some .int) :: pw) ({ frames := 3, cells := 0, slots := 0, locals := 68 }) (pc (dC, dI) [.ref h0, .int p0, .int p1, .int p2] sz [(h0, .inr (7, [.ref mnw, .ref mhd, .ref mas, .ref mps, .ref msf, .ref mdt, .ref mhdd, .ref masd, .ref mpsd, .ref msfd, .ref mkp, .int 0, .ref mtp, .int 0, .int 0, .int 0, .int 0, .ref mld, .int 0, .ref mmd, .ref men, .ref mil, .ref mqu, .int 0, .int 0, .ref mbx])), (mnw, .inl (kI, 99, .inl (fun _ => 0)))] [(kI, .int)]) (va_Qi (fun (r : Int32) (_ : Unit) => r = (-2000)) (fun _ _ => True) (fun _ => False)) 0 0 (fun _ => False) := by
  refine Met.ofW (cc := cX7_best) (maxL := 10) (ret := (some .int)) (by decide +kernel) rfl ?_
  intro p e s m args below meth c s₁ B hml hv
  obtain ⟨rfl, hsz, hP, hK, hD0, hN⟩ := hv
  have hx := B.exec
  have hb := B.bytes
  have hr := B.returns
  have hts := fun w (h : w ∈ pw) => atoms_spec (ws := Cond.code yX7_best cX7_best 10 (some .int) :: pw) B.pre w (List.mem_cons_of_mem _ h)
  have hown : s.vm.findClass RX7 = some m.cls := findClass_of_methodNamed B.named
  have hlocks := B.notSynchronized
  subst hsz
  have hD := hD0
  obtain ⟨H, hHe⟩ : ∃ H : Heap, H = s.heap := ⟨_, rfl⟩
  have hS : va_S (fun _ => False) s.heap H [] := by rw [hHe]; exact va_S.rf
  rw [← hHe] at hP
  have hl := lv_entry ([.ref h0, .int p0, .int p1, .int p2]) (n := 10) (Nat.le_of_ble_eq_true rfl)
  rw [lg_entry_eq]
  generalize (lg_sl ([.ref h0, .int p0, .int p1, .int p2]) ++ List.replicate (10 - (lg_sl ([.ref h0, .int p0, .int p1, .int p2])).length) Slot.unset).toArray = ls at hl ⊢
  have hl : lv_has ls 10 [(0, .ref h0), (1, .int p0), (2, .int p1), (3, .int p2)] := hl
  rw [← hHe]
  refine lv_aload_n hx hb dX7_best_0 rfl (lv_at hl 0 rfl) ?_
  refine lv_iload_n hx hb dX7_best_1 rfl (lv_at hl 1 rfl) ?_
  refine lv_iload_n hx hb dX7_best_2 rfl (lv_at hl 2 rfl) ?_
  have hPc := hP.sub (ws' := [(h0, .inr (7, [.ref mnw, .ref mhd, .ref mas, .ref mps, .ref msf, .ref mdt, .ref mhdd, .ref masd, .ref mpsd, .ref msfd, .ref mkp, .int 0, .ref mtp, .int 0, .int 0, .int 0, .int 0, .ref mld, .int 0, .ref mmd, .ref men, .ref mil, .ref mqu, .int 0, .int 0, .ref mbx])), (mnw, .inl (kI, 99, .inl (fun _ => 0)))]) [0, 1] rfl
  have hDc := hD.sub (ws' := [(h0, .inr (7, [.ref mnw, .ref mhd, .ref mas, .ref mps, .ref msf, .ref mdt, .ref mhdd, .ref masd, .ref mpsd, .ref msfd, .ref mkp, .int 0, .ref mtp, .int 0, .int 0, .int 0, .int 0, .ref mld, .int 0, .ref mmd, .ref men, .ref mil, .ref mqu, .int 0, .int 0, .ref mbx])), (mnw, .inl (kI, 99, .inl (fun _ => 0)))]) [0, 1] (by decide) rfl
  have hKc := hK.sub (tys' := [(kI, .int)]) [0] rfl
  refine ro_i (va_runV (As := [.int p0, .int p1]) (rest := []) ⟨hx, hb, hml, hown, hts⟩ (c_X7_areTwo l dC dI h0 mnw mhd mas mps msf mdt mhdd masd mpsd msfd mkp mtp mld mmd men mil mqu mbx kI H.size p0 p1 ) (cwV 2 hts (gV pq1571 pq1573 pq62 pq81 pq1574) rfl rfl rfl (by decide +kernel) ⟨(Nat.le_of_ble_eq_true rfl), (Nat.le_of_ble_eq_true rfl)⟩) (pc_V hPc hDc hKc hN (va_recv hK hP (ci := 7) (q0 := 0) rfl rfl)) rfl rfl hl.1 rfl (lv_room (Nat.le_of_ble_eq_true rfl)) dX7_best_3 ⟨(Nat.le_of_ble_eq_true rfl), (Nat.le_of_ble_eq_true rfl)⟩) hS hP (fun r1 H locs hr1 hP hS => ?_)
  subst hr1
  refine lv_if_eq (tgt := 21) hx hb dX7_best_6 (by decide) (fun c2 => ?_) (fun c2 => absurd (by decide +kernel) c2)
  refine lv_sipush (v := (-2000)) hx hb dX7_best_21 (by decide +kernel) ?_
  exact W.iret (v := (-2000)) hx hb hr (fun t ht hW => ⟨⟨(-2000), (), rfl, rfl, trivial⟩, hS.F ht⟩) hS.2.2 dX7_best_24

set_option maxHeartbeats 4000000 in
set_option maxRecDepth 100000 in
theorem c_X7_slope (l : Launch) (dC : Nat → ClassId) (dI : Nat → Nat → Nat) (h0 mnw mhd mas mps msf mdt mhdd masd mpsd msfd mkp mtp mld mmd men mil mqu mbx : Nat) (kI : ClassId) (sz : Nat) (p0 : Int32) (p1 : Int32) (p2 : Int32) : Met l yX7_slope (.code yX7_slope cX7_slope 4 (some .int) :: pw) ({ frames := 3, cells := 0, slots := 0, locals := 68 }) (pc (dC, dI) [.ref h0, .int p0, .int p1, .int p2] sz [(h0, .inr (7, [.ref mnw, .ref mhd, .ref mas, .ref mps, .ref msf, .ref mdt, .ref mhdd, .ref masd, .ref mpsd, .ref msfd, .ref mkp, .int 0, .ref mtp, .int 0, .int 0, .int 0, .int 0, .ref mld, .int 0, .ref mmd, .ref men, .ref mil, .ref mqu, .int 0, .int 0, .ref mbx])), (mnw, .inl (kI, 99, .inl (fun _ => 0)))] [(kI, .int)]) (va_Qi (fun (r : Int32) (_ : Unit) => r = (-2000000)) (fun _ _ => True) (fun _ => False)) 0 0 (fun _ => False) := by
  refine Met.ofW (cc := cX7_slope) (maxL := 4) (ret := (some .int)) (by decide +kernel) rfl ?_
  intro p e s m args below meth c s₁ B hml hv
  obtain ⟨rfl, hsz, hP, hK, hD0, hN⟩ := hv
  have hx := B.exec
  have hb := B.bytes
  have hr := B.returns
  have hts := fun w (h : w ∈ pw) => atoms_spec (ws := Cond.code yX7_slope cX7_slope 4 (some .int) :: pw) B.pre w (List.mem_cons_of_mem _ h)
  have hown : s.vm.findClass RX7 = some m.cls := findClass_of_methodNamed B.named
  have hlocks := B.notSynchronized
  subst hsz
  have hD := hD0
  obtain ⟨H, hHe⟩ : ∃ H : Heap, H = s.heap := ⟨_, rfl⟩
  have hS : va_S (fun _ => False) s.heap H [] := by rw [hHe]; exact va_S.rf
  rw [← hHe] at hP
  have hl := lv_entry ([.ref h0, .int p0, .int p1, .int p2]) (n := 4) (Nat.le_of_ble_eq_true rfl)
  rw [lg_entry_eq]
  generalize (lg_sl ([.ref h0, .int p0, .int p1, .int p2]) ++ List.replicate (4 - (lg_sl ([.ref h0, .int p0, .int p1, .int p2])).length) Slot.unset).toArray = ls at hl ⊢
  have hl : lv_has ls 4 [(0, .ref h0), (1, .int p0), (2, .int p1), (3, .int p2)] := hl
  rw [← hHe]
  refine lv_aload_n hx hb dX7_slope_0 rfl (lv_at hl 0 rfl) ?_
  refine lv_iload_n hx hb dX7_slope_1 rfl (lv_at hl 1 rfl) ?_
  refine lv_iload_n hx hb dX7_slope_2 rfl (lv_at hl 2 rfl) ?_
  have hPc := hP.sub (ws' := [(h0, .inr (7, [.ref mnw, .ref mhd, .ref mas, .ref mps, .ref msf, .ref mdt, .ref mhdd, .ref masd, .ref mpsd, .ref msfd, .ref mkp, .int 0, .ref mtp, .int 0, .int 0, .int 0, .int 0, .ref mld, .int 0, .ref mmd, .ref men, .ref mil, .ref mqu, .int 0, .int 0, .ref mbx])), (mnw, .inl (kI, 99, .inl (fun _ => 0)))]) [0, 1] rfl
  have hDc := hD.sub (ws' := [(h0, .inr (7, [.ref mnw, .ref mhd, .ref mas, .ref mps, .ref msf, .ref mdt, .ref mhdd, .ref masd, .ref mpsd, .ref msfd, .ref mkp, .int 0, .ref mtp, .int 0, .int 0, .int 0, .int 0, .ref mld, .int 0, .ref mmd, .ref men, .ref mil, .ref mqu, .int 0, .int 0, .ref mbx])), (mnw, .inl (kI, 99, .inl (fun _ => 0)))]) [0, 1] (by decide) rfl
  have hKc := hK.sub (tys' := [(kI, .int)]) [0] rfl
  refine ro_i (va_runV (As := [.int p0, .int p1]) (rest := []) ⟨hx, hb, hml, hown, hts⟩ (c_X7_areTwo l dC dI h0 mnw mhd mas mps msf mdt mhdd masd mpsd msfd mkp mtp mld mmd men mil mqu mbx kI H.size p0 p1 ) (cwV 2 hts (gV pq1571 pq1573 pq62 pq81 pq1574) rfl rfl rfl (by decide +kernel) ⟨(Nat.le_of_ble_eq_true rfl), (Nat.le_of_ble_eq_true rfl)⟩) (pc_V hPc hDc hKc hN (va_recv hK hP (ci := 7) (q0 := 0) rfl rfl)) rfl rfl hl.1 rfl (lv_room (Nat.le_of_ble_eq_true rfl)) dX7_slope_3 ⟨(Nat.le_of_ble_eq_true rfl), (Nat.le_of_ble_eq_true rfl)⟩) hS hP (fun r1 H locs hr1 hP hS => ?_)
  subst hr1
  refine lv_if_eq (tgt := 19) hx hb dX7_slope_6 (by decide) (fun c2 => ?_) (fun c2 => absurd (by decide +kernel) c2)
  refine lv_ldcw hx hb hown (hts _ pq1641) dX7_slope_19 ?_
  exact W.iret (v := (-2000000)) hx hb hr (fun t ht hW => ⟨⟨(-2000000), (), rfl, rfl, trivial⟩, hS.F ht⟩) hS.2.2 dX7_slope_22

set_option maxHeartbeats 4000000 in
set_option maxRecDepth 100000 in
theorem c_X7_seen (l : Launch) (dC : Nat → ClassId) (dI : Nat → Nat → Nat) (h0 mnw mhd mas mps msf mdt mhdd masd mpsd msfd mkp mtp mld mmd men mil mqu mbx : Nat) (kI : ClassId) (sz : Nat) (p0 : Int32) (p1 : Int32) : Met l yX7_seen (.code yX7_seen cX7_seen 11 (some .int) :: pw) ({ frames := 3, cells := 0, slots := 0, locals := 68 }) (pc (dC, dI) [.ref h0, .int p0, .int p1] sz [(h0, .inr (7, [.ref mnw, .ref mhd, .ref mas, .ref mps, .ref msf, .ref mdt, .ref mhdd, .ref masd, .ref mpsd, .ref msfd, .ref mkp, .int 0, .ref mtp, .int 0, .int 0, .int 0, .int 0, .ref mld, .int 0, .ref mmd, .ref men, .ref mil, .ref mqu, .int 0, .int 0, .ref mbx])), (mnw, .inl (kI, 99, .inl (fun _ => 0)))] [(kI, .int)]) (va_Qi (fun (r : Int32) (_ : Unit) => r = (-1)) (fun _ _ => True) (fun _ => False)) 0 0 (fun _ => False) := by
  refine Met.ofW (cc := cX7_seen) (maxL := 11) (ret := (some .int)) (by decide +kernel) rfl ?_
  intro p e s m args below meth c s₁ B hml hv
  obtain ⟨rfl, hsz, hP, hK, hD0, hN⟩ := hv
  have hx := B.exec
  have hb := B.bytes
  have hr := B.returns
  have hts := fun w (h : w ∈ pw) => atoms_spec (ws := Cond.code yX7_seen cX7_seen 11 (some .int) :: pw) B.pre w (List.mem_cons_of_mem _ h)
  have hown : s.vm.findClass RX7 = some m.cls := findClass_of_methodNamed B.named
  have hlocks := B.notSynchronized
  subst hsz
  have hD := hD0
  obtain ⟨H, hHe⟩ : ∃ H : Heap, H = s.heap := ⟨_, rfl⟩
  have hS : va_S (fun _ => False) s.heap H [] := by rw [hHe]; exact va_S.rf
  rw [← hHe] at hP
  have hl := lv_entry ([.ref h0, .int p0, .int p1]) (n := 11) (Nat.le_of_ble_eq_true rfl)
  rw [lg_entry_eq]
  generalize (lg_sl ([.ref h0, .int p0, .int p1]) ++ List.replicate (11 - (lg_sl ([.ref h0, .int p0, .int p1])).length) Slot.unset).toArray = ls at hl ⊢
  have hl : lv_has ls 11 [(0, .ref h0), (1, .int p0), (2, .int p1)] := hl
  rw [← hHe]
  refine lv_aload_n hx hb dX7_seen_0 rfl (lv_at hl 0 rfl) ?_
  refine lv_iload_n hx hb dX7_seen_1 rfl (lv_at hl 1 rfl) ?_
  refine lv_iload_n hx hb dX7_seen_2 rfl (lv_at hl 2 rfl) ?_
  have hPc := hP.sub (ws' := [(h0, .inr (7, [.ref mnw, .ref mhd, .ref mas, .ref mps, .ref msf, .ref mdt, .ref mhdd, .ref masd, .ref mpsd, .ref msfd, .ref mkp, .int 0, .ref mtp, .int 0, .int 0, .int 0, .int 0, .ref mld, .int 0, .ref mmd, .ref men, .ref mil, .ref mqu, .int 0, .int 0, .ref mbx])), (mnw, .inl (kI, 99, .inl (fun _ => 0)))]) [0, 1] rfl
  have hDc := hD.sub (ws' := [(h0, .inr (7, [.ref mnw, .ref mhd, .ref mas, .ref mps, .ref msf, .ref mdt, .ref mhdd, .ref masd, .ref mpsd, .ref msfd, .ref mkp, .int 0, .ref mtp, .int 0, .int 0, .int 0, .int 0, .ref mld, .int 0, .ref mmd, .ref men, .ref mil, .ref mqu, .int 0, .int 0, .ref mbx])), (mnw, .inl (kI, 99, .inl (fun _ => 0)))]) [0, 1] (by decide) rfl
  have hKc := hK.sub (tys' := [(kI, .int)]) [0] rfl
  refine ro_i (va_runV (As := [.int p0, .int p1]) (rest := []) ⟨hx, hb, hml, hown, hts⟩ (c_X7_areTwo l dC dI h0 mnw mhd mas mps msf mdt mhdd masd mpsd msfd mkp mtp mld mmd men mil mqu mbx kI H.size p0 p1 ) (cwV 2 hts (gV pq1571 pq1573 pq62 pq81 pq1574) rfl rfl rfl (by decide +kernel) ⟨(Nat.le_of_ble_eq_true rfl), (Nat.le_of_ble_eq_true rfl)⟩) (pc_V hPc hDc hKc hN (va_recv hK hP (ci := 7) (q0 := 0) rfl rfl)) rfl rfl hl.1 rfl (lv_room (Nat.le_of_ble_eq_true rfl)) dX7_seen_3 ⟨(Nat.le_of_ble_eq_true rfl), (Nat.le_of_ble_eq_true rfl)⟩) hS hP (fun r1 H locs hr1 hP hS => ?_)
  subst hr1
  refine lv_if_eq (tgt := 17) hx hb dX7_seen_6 (by decide) (fun c2 => ?_) (fun c2 => absurd (by decide +kernel) c2)
  refine lv_iconst (v := (-1)) hx hb dX7_seen_17 (by decide +kernel) ?_
  exact W.iret (v := (-1)) hx hb hr (fun t ht hW => ⟨⟨(-1), (), rfl, rfl, trivial⟩, hS.F ht⟩) hS.2.2 dX7_seen_18

set_option maxHeartbeats 4000000 in
set_option maxRecDepth 100000 in
theorem c_X7_island (l : Launch) (dC : Nat → ClassId) (dI : Nat → Nat → Nat) (h0 mnw mhd mas mps msf mdt mhdd masd mpsd msfd mkp mtp mld mmd men mil mqu mbx : Nat) (kI : ClassId) (sz : Nat) (p0 : Int32) (p1 : Int32) (p2 : Int32) : Met l yX7_island (.code yX7_island cX7_island 11 (some .int) :: pw) ({ frames := 2, cells := 0, slots := 0, locals := 46 }) (pc (dC, dI) [.ref h0, .int p0, .int p1, .int p2] sz [(h0, .inr (7, [.ref mnw, .ref mhd, .ref mas, .ref mps, .ref msf, .ref mdt, .ref mhdd, .ref masd, .ref mpsd, .ref msfd, .ref mkp, .int 0, .ref mtp, .int 0, .int 0, .int 0, .int 0, .ref mld, .int 0, .ref mmd, .ref men, .ref mil, .ref mqu, .int 0, .int 0, .ref mbx])), (mnw, .inl (kI, 99, .inl (fun _ => 0)))] [(kI, .int)]) (va_Qi (fun (r : Int32) (_ : Unit) => r = (-1)) (fun _ _ => True) (fun _ => False)) 0 0 (fun _ => False) := by
  refine Met.ofW (cc := cX7_island) (maxL := 11) (ret := (some .int)) (by decide +kernel) rfl ?_
  intro p e s m args below meth c s₁ B hml hv
  obtain ⟨rfl, hsz, hP, hK, hD0, hN⟩ := hv
  have hx := B.exec
  have hb := B.bytes
  have hr := B.returns
  have hts := fun w (h : w ∈ pw) => atoms_spec (ws := Cond.code yX7_island cX7_island 11 (some .int) :: pw) B.pre w (List.mem_cons_of_mem _ h)
  have hown : s.vm.findClass RX7 = some m.cls := findClass_of_methodNamed B.named
  have hlocks := B.notSynchronized
  subst hsz
  have hD := hD0
  obtain ⟨H, hHe⟩ : ∃ H : Heap, H = s.heap := ⟨_, rfl⟩
  have hS : va_S (fun _ => False) s.heap H [] := by rw [hHe]; exact va_S.rf
  rw [← hHe] at hP
  have hl := lv_entry ([.ref h0, .int p0, .int p1, .int p2]) (n := 11) (Nat.le_of_ble_eq_true rfl)
  rw [lg_entry_eq]
  generalize (lg_sl ([.ref h0, .int p0, .int p1, .int p2]) ++ List.replicate (11 - (lg_sl ([.ref h0, .int p0, .int p1, .int p2])).length) Slot.unset).toArray = ls at hl ⊢
  have hl : lv_has ls 11 [(0, .ref h0), (1, .int p0), (2, .int p1), (3, .int p2)] := hl
  rw [← hHe]
  refine lv_aload_n hx hb dX7_island_0 rfl (lv_at hl 0 rfl) ?_
  refine lv_iload_n hx hb dX7_island_1 rfl (lv_at hl 1 rfl) ?_
  have hPc := hP.sub (ws' := [(h0, .inr (7, [.ref mnw, .ref mhd, .ref mas, .ref mps, .ref msf, .ref mdt, .ref mhdd, .ref masd, .ref mpsd, .ref msfd, .ref mkp, .int 0, .ref mtp, .int 0, .int 0, .int 0, .int 0, .ref mld, .int 0, .ref mmd, .ref men, .ref mil, .ref mqu, .int 0, .int 0, .ref mbx])), (mnw, .inl (kI, 99, .inl (fun _ => 0)))]) [0, 1] rfl
  have hDc := hD.sub (ws' := [(h0, .inr (7, [.ref mnw, .ref mhd, .ref mas, .ref mps, .ref msf, .ref mdt, .ref mhdd, .ref masd, .ref mpsd, .ref msfd, .ref mkp, .int 0, .ref mtp, .int 0, .int 0, .int 0, .int 0, .ref mld, .int 0, .ref mmd, .ref men, .ref mil, .ref mqu, .int 0, .int 0, .ref mbx])), (mnw, .inl (kI, 99, .inl (fun _ => 0)))]) [0, 1] (by decide) rfl
  have hKc := hK.sub (tys' := [(kI, .int)]) [0] rfl
  refine ro_i (va_runV (As := [.int p0]) (rest := []) ⟨hx, hb, hml, hown, hts⟩ (c_X7_isMask l dC dI h0 mnw mhd mas mps msf mdt mhdd masd mpsd msfd mkp mtp mld mmd men mil mqu mbx kI H.size p0 ) (cwV 1 hts (gV pq1364 pq1366 pq31 pq81 pq1367) rfl rfl rfl (by decide +kernel) ⟨(Nat.le_of_ble_eq_true rfl), (Nat.le_of_ble_eq_true rfl)⟩) (pc_V hPc hDc hKc hN (va_recv hK hP (ci := 7) (q0 := 0) rfl rfl)) rfl rfl hl.1 rfl (lv_room (Nat.le_of_ble_eq_true rfl)) dX7_island_2 ⟨(Nat.le_of_ble_eq_true rfl), (Nat.le_of_ble_eq_true rfl)⟩) hS hP (fun r1 H locs hr1 hP hS => ?_)
  subst hr1
  refine lv_if_ne (tgt := 10) hx hb dX7_island_5 (by decide) (fun c2 => absurd (by decide +kernel) c2) (fun c2 => ?_)
  refine lv_iconst (v := (-1)) hx hb dX7_island_8 (by decide +kernel) ?_
  exact W.iret (v := (-1)) hx hb hr (fun t ht hW => ⟨⟨(-1), (), rfl, rfl, trivial⟩, hS.F ht⟩) hS.2.2 dX7_island_9

set_option maxHeartbeats 4000000 in
set_option maxRecDepth 100000 in
theorem c_X7_shifts (l : Launch) (dC : Nat → ClassId) (dI : Nat → Nat → Nat) (h0 mnw mhd mas mps msf mdt mhdd masd mpsd msfd mkp mtp mld mmd men mil mqu mbx : Nat) (kI : ClassId) (sz : Nat) (p0 : Int32) (p1 : Int32) : Met l yX7_shifts (.code yX7_shifts cX7_shifts 6 (some .int) :: pw) ({ frames := 2, cells := 0, slots := 0, locals := 46 }) (pc (dC, dI) [.ref h0, .int p0, .int p1] sz [(h0, .inr (7, [.ref mnw, .ref mhd, .ref mas, .ref mps, .ref msf, .ref mdt, .ref mhdd, .ref masd, .ref mpsd, .ref msfd, .ref mkp, .int 0, .ref mtp, .int 0, .int 0, .int 0, .int 0, .ref mld, .int 0, .ref mmd, .ref men, .ref mil, .ref mqu, .int 0, .int 0, .ref mbx])), (mnw, .inl (kI, 99, .inl (fun _ => 0)))] [(kI, .int)]) (va_Qi (fun (r : Int32) (_ : Unit) => r = (-1)) (fun _ _ => True) (fun _ => False)) 0 0 (fun _ => False) := by
  refine Met.ofW (cc := cX7_shifts) (maxL := 6) (ret := (some .int)) (by decide +kernel) rfl ?_
  intro p e s m args below meth c s₁ B hml hv
  obtain ⟨rfl, hsz, hP, hK, hD0, hN⟩ := hv
  have hx := B.exec
  have hb := B.bytes
  have hr := B.returns
  have hts := fun w (h : w ∈ pw) => atoms_spec (ws := Cond.code yX7_shifts cX7_shifts 6 (some .int) :: pw) B.pre w (List.mem_cons_of_mem _ h)
  have hown : s.vm.findClass RX7 = some m.cls := findClass_of_methodNamed B.named
  have hlocks := B.notSynchronized
  subst hsz
  have hD := hD0
  obtain ⟨H, hHe⟩ : ∃ H : Heap, H = s.heap := ⟨_, rfl⟩
  have hS : va_S (fun _ => False) s.heap H [] := by rw [hHe]; exact va_S.rf
  rw [← hHe] at hP
  have hl := lv_entry ([.ref h0, .int p0, .int p1]) (n := 6) (Nat.le_of_ble_eq_true rfl)
  rw [lg_entry_eq]
  generalize (lg_sl ([.ref h0, .int p0, .int p1]) ++ List.replicate (6 - (lg_sl ([.ref h0, .int p0, .int p1])).length) Slot.unset).toArray = ls at hl ⊢
  have hl : lv_has ls 6 [(0, .ref h0), (1, .int p0), (2, .int p1)] := hl
  rw [← hHe]
  refine lv_aload_n hx hb dX7_shifts_0 rfl (lv_at hl 0 rfl) ?_
  refine lv_iload_n hx hb dX7_shifts_1 rfl (lv_at hl 1 rfl) ?_
  have hPc := hP.sub (ws' := [(h0, .inr (7, [.ref mnw, .ref mhd, .ref mas, .ref mps, .ref msf, .ref mdt, .ref mhdd, .ref masd, .ref mpsd, .ref msfd, .ref mkp, .int 0, .ref mtp, .int 0, .int 0, .int 0, .int 0, .ref mld, .int 0, .ref mmd, .ref men, .ref mil, .ref mqu, .int 0, .int 0, .ref mbx])), (mnw, .inl (kI, 99, .inl (fun _ => 0)))]) [0, 1] rfl
  have hDc := hD.sub (ws' := [(h0, .inr (7, [.ref mnw, .ref mhd, .ref mas, .ref mps, .ref msf, .ref mdt, .ref mhdd, .ref masd, .ref mpsd, .ref msfd, .ref mkp, .int 0, .ref mtp, .int 0, .int 0, .int 0, .int 0, .ref mld, .int 0, .ref mmd, .ref men, .ref mil, .ref mqu, .int 0, .int 0, .ref mbx])), (mnw, .inl (kI, 99, .inl (fun _ => 0)))]) [0, 1] (by decide) rfl
  have hKc := hK.sub (tys' := [(kI, .int)]) [0] rfl
  refine ro_i (va_runV (As := [.int p0]) (rest := []) ⟨hx, hb, hml, hown, hts⟩ (c_X7_isMask l dC dI h0 mnw mhd mas mps msf mdt mhdd masd mpsd msfd mkp mtp mld mmd men mil mqu mbx kI H.size p0 ) (cwV 1 hts (gV pq1364 pq1366 pq31 pq81 pq1367) rfl rfl rfl (by decide +kernel) ⟨(Nat.le_of_ble_eq_true rfl), (Nat.le_of_ble_eq_true rfl)⟩) (pc_V hPc hDc hKc hN (va_recv hK hP (ci := 7) (q0 := 0) rfl rfl)) rfl rfl hl.1 rfl (lv_room (Nat.le_of_ble_eq_true rfl)) dX7_shifts_2 ⟨(Nat.le_of_ble_eq_true rfl), (Nat.le_of_ble_eq_true rfl)⟩) hS hP (fun r1 H locs hr1 hP hS => ?_)
  subst hr1
  refine lv_if_eq (tgt := 16) hx hb dX7_shifts_5 (by decide) (fun c2 => ?_) (fun c2 => absurd (by decide +kernel) c2)
  refine lv_iconst (v := (-1)) hx hb dX7_shifts_16 (by decide +kernel) ?_
  exact W.iret (v := (-1)) hx hb hr (fun t ht hW => ⟨⟨(-1), (), rfl, rfl, trivial⟩, hS.F ht⟩) hS.2.2 dX7_shifts_17

set_option maxHeartbeats 4000000 in
set_option maxRecDepth 100000 in
theorem c_X7_like (l : Launch) (dC : Nat → ClassId) (dI : Nat → Nat → Nat) (h0 mnw mhd mas mps msf mdt mhdd masd mpsd msfd mkp mtp mld mmd men mil mqu mbx : Nat) (kI : ClassId) (sz : Nat) (p0 : Int32) : Met l yX7_like (.code yX7_like cX7_like 4 (some .int) :: pw) ({ frames := 2, cells := 0, slots := 0, locals := 46 }) (pc (dC, dI) [.ref h0, .int p0] sz [(h0, .inr (7, [.ref mnw, .ref mhd, .ref mas, .ref mps, .ref msf, .ref mdt, .ref mhdd, .ref masd, .ref mpsd, .ref msfd, .ref mkp, .int 0, .ref mtp, .int 0, .int 0, .int 0, .int 0, .ref mld, .int 0, .ref mmd, .ref men, .ref mil, .ref mqu, .int 0, .int 0, .ref mbx])), (mnw, .inl (kI, 99, .inl (fun _ => 0)))] [(kI, .int)]) (va_Qi (fun (r : Int32) (_ : Unit) => r = (-1)) (fun _ _ => True) (fun _ => False)) 0 0 (fun _ => False) := by
  refine Met.ofW (cc := cX7_like) (maxL := 4) (ret := (some .int)) (by decide +kernel) rfl ?_
  intro p e s m args below meth c s₁ B hml hv
  obtain ⟨rfl, hsz, hP, hK, hD0, hN⟩ := hv
  have hx := B.exec
  have hb := B.bytes
  have hr := B.returns
  have hts := fun w (h : w ∈ pw) => atoms_spec (ws := Cond.code yX7_like cX7_like 4 (some .int) :: pw) B.pre w (List.mem_cons_of_mem _ h)
  have hown : s.vm.findClass RX7 = some m.cls := findClass_of_methodNamed B.named
  have hlocks := B.notSynchronized
  subst hsz
  have hD := hD0
  obtain ⟨H, hHe⟩ : ∃ H : Heap, H = s.heap := ⟨_, rfl⟩
  have hS : va_S (fun _ => False) s.heap H [] := by rw [hHe]; exact va_S.rf
  rw [← hHe] at hP
  have hl := lv_entry ([.ref h0, .int p0]) (n := 4) (Nat.le_of_ble_eq_true rfl)
  rw [lg_entry_eq]
  generalize (lg_sl ([.ref h0, .int p0]) ++ List.replicate (4 - (lg_sl ([.ref h0, .int p0])).length) Slot.unset).toArray = ls at hl ⊢
  have hl : lv_has ls 4 [(0, .ref h0), (1, .int p0)] := hl
  rw [← hHe]
  refine lv_aload_n hx hb dX7_like_0 rfl (lv_at hl 0 rfl) ?_
  refine lv_iload_n hx hb dX7_like_1 rfl (lv_at hl 1 rfl) ?_
  have hPc := hP.sub (ws' := [(h0, .inr (7, [.ref mnw, .ref mhd, .ref mas, .ref mps, .ref msf, .ref mdt, .ref mhdd, .ref masd, .ref mpsd, .ref msfd, .ref mkp, .int 0, .ref mtp, .int 0, .int 0, .int 0, .int 0, .ref mld, .int 0, .ref mmd, .ref men, .ref mil, .ref mqu, .int 0, .int 0, .ref mbx])), (mnw, .inl (kI, 99, .inl (fun _ => 0)))]) [0, 1] rfl
  have hDc := hD.sub (ws' := [(h0, .inr (7, [.ref mnw, .ref mhd, .ref mas, .ref mps, .ref msf, .ref mdt, .ref mhdd, .ref masd, .ref mpsd, .ref msfd, .ref mkp, .int 0, .ref mtp, .int 0, .int 0, .int 0, .int 0, .ref mld, .int 0, .ref mmd, .ref men, .ref mil, .ref mqu, .int 0, .int 0, .ref mbx])), (mnw, .inl (kI, 99, .inl (fun _ => 0)))]) [0, 1] (by decide) rfl
  have hKc := hK.sub (tys' := [(kI, .int)]) [0] rfl
  refine ro_i (va_runV (As := [.int p0]) (rest := []) ⟨hx, hb, hml, hown, hts⟩ (c_X7_isMask l dC dI h0 mnw mhd mas mps msf mdt mhdd masd mpsd msfd mkp mtp mld mmd men mil mqu mbx kI H.size p0 ) (cwV 1 hts (gV pq1364 pq1366 pq31 pq81 pq1367) rfl rfl rfl (by decide +kernel) ⟨(Nat.le_of_ble_eq_true rfl), (Nat.le_of_ble_eq_true rfl)⟩) (pc_V hPc hDc hKc hN (va_recv hK hP (ci := 7) (q0 := 0) rfl rfl)) rfl rfl hl.1 rfl (lv_room (Nat.le_of_ble_eq_true rfl)) dX7_like_2 ⟨(Nat.le_of_ble_eq_true rfl), (Nat.le_of_ble_eq_true rfl)⟩) hS hP (fun r1 H locs hr1 hP hS => ?_)
  subst hr1
  refine lv_if_ne (tgt := 10) hx hb dX7_like_5 (by decide) (fun c2 => absurd (by decide +kernel) c2) (fun c2 => ?_)
  refine lv_iconst (v := (-1)) hx hb dX7_like_8 (by decide +kernel) ?_
  exact W.iret (v := (-1)) hx hb hr (fun t ht hW => ⟨⟨(-1), (), rfl, rfl, trivial⟩, hS.F ht⟩) hS.2.2 dX7_like_9

set_option maxHeartbeats 4000000 in
set_option maxRecDepth 100000 in
theorem c_X7_letter (l : Launch) (dC : Nat → ClassId) (dI : Nat → Nat → Nat) (h0 mnw mhd mas mps msf mdt mhdd masd mpsd msfd mkp mtp mld mmd men mil mqu mbx : Nat) (kI : ClassId) (sz : Nat) (p0 : Int32) (p1 : Int32) : Met l yX7_letter (.code yX7_letter cX7_letter 5 (some .int) :: pw) ({ frames := 2, cells := 0, slots := 0, locals := 46 }) (pc (dC, dI) [.ref h0, .int p0, .int p1] sz [(h0, .inr (7, [.ref mnw, .ref mhd, .ref mas, .ref mps, .ref msf, .ref mdt, .ref mhdd, .ref masd, .ref mpsd, .ref msfd, .ref mkp, .int 0, .ref mtp, .int 0, .int 0, .int 0, .int 0, .ref mld, .int 0, .ref mmd, .ref men, .ref mil, .ref mqu, .int 0, .int 0, .ref mbx])), (mnw, .inl (kI, 99, .inl (fun _ => 0)))] [(kI, .int)]) (va_Qi (fun (r : Int32) (_ : Unit) => r = (-1)) (fun _ _ => True) (fun _ => False)) 0 0 (fun _ => False) := by
  refine Met.ofW (cc := cX7_letter) (maxL := 5) (ret := (some .int)) (by decide +kernel) rfl ?_
  intro p e s m args below meth c s₁ B hml hv
  obtain ⟨rfl, hsz, hP, hK, hD0, hN⟩ := hv
  have hx := B.exec
  have hb := B.bytes
  have hr := B.returns
  have hts := fun w (h : w ∈ pw) => atoms_spec (ws := Cond.code yX7_letter cX7_letter 5 (some .int) :: pw) B.pre w (List.mem_cons_of_mem _ h)
  have hown : s.vm.findClass RX7 = some m.cls := findClass_of_methodNamed B.named
  have hlocks := B.notSynchronized
  subst hsz
  have hD := hD0
  obtain ⟨H, hHe⟩ : ∃ H : Heap, H = s.heap := ⟨_, rfl⟩
  have hS : va_S (fun _ => False) s.heap H [] := by rw [hHe]; exact va_S.rf
  rw [← hHe] at hP
  have hl := lv_entry ([.ref h0, .int p0, .int p1]) (n := 5) (Nat.le_of_ble_eq_true rfl)
  rw [lg_entry_eq]
  generalize (lg_sl ([.ref h0, .int p0, .int p1]) ++ List.replicate (5 - (lg_sl ([.ref h0, .int p0, .int p1])).length) Slot.unset).toArray = ls at hl ⊢
  have hl : lv_has ls 5 [(0, .ref h0), (1, .int p0), (2, .int p1)] := hl
  rw [← hHe]
  refine lv_aload_n hx hb dX7_letter_0 rfl (lv_at hl 0 rfl) ?_
  refine lv_iload_n hx hb dX7_letter_1 rfl (lv_at hl 1 rfl) ?_
  have hPc := hP.sub (ws' := [(h0, .inr (7, [.ref mnw, .ref mhd, .ref mas, .ref mps, .ref msf, .ref mdt, .ref mhdd, .ref masd, .ref mpsd, .ref msfd, .ref mkp, .int 0, .ref mtp, .int 0, .int 0, .int 0, .int 0, .ref mld, .int 0, .ref mmd, .ref men, .ref mil, .ref mqu, .int 0, .int 0, .ref mbx])), (mnw, .inl (kI, 99, .inl (fun _ => 0)))]) [0, 1] rfl
  have hDc := hD.sub (ws' := [(h0, .inr (7, [.ref mnw, .ref mhd, .ref mas, .ref mps, .ref msf, .ref mdt, .ref mhdd, .ref masd, .ref mpsd, .ref msfd, .ref mkp, .int 0, .ref mtp, .int 0, .int 0, .int 0, .int 0, .ref mld, .int 0, .ref mmd, .ref men, .ref mil, .ref mqu, .int 0, .int 0, .ref mbx])), (mnw, .inl (kI, 99, .inl (fun _ => 0)))]) [0, 1] (by decide) rfl
  have hKc := hK.sub (tys' := [(kI, .int)]) [0] rfl
  refine ro_i (va_runV (As := [.int p0]) (rest := []) ⟨hx, hb, hml, hown, hts⟩ (c_X7_isMask l dC dI h0 mnw mhd mas mps msf mdt mhdd masd mpsd msfd mkp mtp mld mmd men mil mqu mbx kI H.size p0 ) (cwV 1 hts (gV pq1364 pq1366 pq31 pq81 pq1367) rfl rfl rfl (by decide +kernel) ⟨(Nat.le_of_ble_eq_true rfl), (Nat.le_of_ble_eq_true rfl)⟩) (pc_V hPc hDc hKc hN (va_recv hK hP (ci := 7) (q0 := 0) rfl rfl)) rfl rfl hl.1 rfl (lv_room (Nat.le_of_ble_eq_true rfl)) dX7_letter_2 ⟨(Nat.le_of_ble_eq_true rfl), (Nat.le_of_ble_eq_true rfl)⟩) hS hP (fun r1 H locs hr1 hP hS => ?_)
  subst hr1
  refine lv_if_eq (tgt := 13) hx hb dX7_letter_5 (by decide) (fun c2 => ?_) (fun c2 => absurd (by decide +kernel) c2)
  refine lv_iconst (v := (-1)) hx hb dX7_letter_13 (by decide +kernel) ?_
  exact W.iret (v := (-1)) hx hb hr (fun t ht hW => ⟨⟨(-1), (), rfl, rfl, trivial⟩, hS.F ht⟩) hS.2.2 dX7_letter_14

set_option maxHeartbeats 4000000 in
set_option maxRecDepth 100000 in
theorem c_X7_dense (l : Launch) (dC : Nat → ClassId) (dI : Nat → Nat → Nat) (h0 mnw mhd mas mps msf mdt mhdd masd mpsd msfd mkp mtp mld mmd men mil mqu mbx : Nat) (kI : ClassId) (sz : Nat) (p0 : Int32) (p1 : Int32) (p2 : Int32) (p3 : Int32) : Met l yX7_dense (.code yX7_dense cX7_dense 11 (some .int) :: pw) ({ frames := 2, cells := 0, slots := 0, locals := 46 }) (pc (dC, dI) [.ref h0, .int p0, .int p1, .int p2, .int p3] sz [(h0, .inr (7, [.ref mnw, .ref mhd, .ref mas, .ref mps, .ref msf, .ref mdt, .ref mhdd, .ref masd, .ref mpsd, .ref msfd, .ref mkp, .int 0, .ref mtp, .int 0, .int 0, .int 0, .int 0, .ref mld, .int 0, .ref mmd, .ref men, .ref mil, .ref mqu, .int 0, .int 0, .ref mbx])), (mnw, .inl (kI, 99, .inl (fun _ => 0)))] [(kI, .int)]) (va_Qi (fun (r : Int32) (_ : Unit) => r = (-1)) (fun _ _ => True) (fun _ => False)) 0 0 (fun _ => False) := by
  refine Met.ofW (cc := cX7_dense) (maxL := 11) (ret := (some .int)) (by decide +kernel) rfl ?_
  intro p e s m args below meth c s₁ B hml hv
  obtain ⟨rfl, hsz, hP, hK, hD0, hN⟩ := hv
  have hx := B.exec
  have hb := B.bytes
  have hr := B.returns
  have hts := fun w (h : w ∈ pw) => atoms_spec (ws := Cond.code yX7_dense cX7_dense 11 (some .int) :: pw) B.pre w (List.mem_cons_of_mem _ h)
  have hown : s.vm.findClass RX7 = some m.cls := findClass_of_methodNamed B.named
  have hlocks := B.notSynchronized
  subst hsz
  have hD := hD0
  obtain ⟨H, hHe⟩ : ∃ H : Heap, H = s.heap := ⟨_, rfl⟩
  have hS : va_S (fun _ => False) s.heap H [] := by rw [hHe]; exact va_S.rf
  rw [← hHe] at hP
  have hl := lv_entry ([.ref h0, .int p0, .int p1, .int p2, .int p3]) (n := 11) (Nat.le_of_ble_eq_true rfl)
  rw [lg_entry_eq]
  generalize (lg_sl ([.ref h0, .int p0, .int p1, .int p2, .int p3]) ++ List.replicate (11 - (lg_sl ([.ref h0, .int p0, .int p1, .int p2, .int p3])).length) Slot.unset).toArray = ls at hl ⊢
  have hl : lv_has ls 11 [(0, .ref h0), (1, .int p0), (2, .int p1), (3, .int p2), (4, .int p3)] := hl
  rw [← hHe]
  refine lv_aload_n hx hb dX7_dense_0 rfl (lv_at hl 0 rfl) ?_
  refine lv_iload_n hx hb dX7_dense_1 rfl (lv_at hl 1 rfl) ?_
  have hPc := hP.sub (ws' := [(h0, .inr (7, [.ref mnw, .ref mhd, .ref mas, .ref mps, .ref msf, .ref mdt, .ref mhdd, .ref masd, .ref mpsd, .ref msfd, .ref mkp, .int 0, .ref mtp, .int 0, .int 0, .int 0, .int 0, .ref mld, .int 0, .ref mmd, .ref men, .ref mil, .ref mqu, .int 0, .int 0, .ref mbx])), (mnw, .inl (kI, 99, .inl (fun _ => 0)))]) [0, 1] rfl
  have hDc := hD.sub (ws' := [(h0, .inr (7, [.ref mnw, .ref mhd, .ref mas, .ref mps, .ref msf, .ref mdt, .ref mhdd, .ref masd, .ref mpsd, .ref msfd, .ref mkp, .int 0, .ref mtp, .int 0, .int 0, .int 0, .int 0, .ref mld, .int 0, .ref mmd, .ref men, .ref mil, .ref mqu, .int 0, .int 0, .ref mbx])), (mnw, .inl (kI, 99, .inl (fun _ => 0)))]) [0, 1] (by decide) rfl
  have hKc := hK.sub (tys' := [(kI, .int)]) [0] rfl
  refine ro_i (va_runV (As := [.int p0]) (rest := []) ⟨hx, hb, hml, hown, hts⟩ (c_X7_isMask l dC dI h0 mnw mhd mas mps msf mdt mhdd masd mpsd msfd mkp mtp mld mmd men mil mqu mbx kI H.size p0 ) (cwV 1 hts (gV pq1364 pq1366 pq31 pq81 pq1367) rfl rfl rfl (by decide +kernel) ⟨(Nat.le_of_ble_eq_true rfl), (Nat.le_of_ble_eq_true rfl)⟩) (pc_V hPc hDc hKc hN (va_recv hK hP (ci := 7) (q0 := 0) rfl rfl)) rfl rfl hl.1 rfl (lv_room (Nat.le_of_ble_eq_true rfl)) dX7_dense_2 ⟨(Nat.le_of_ble_eq_true rfl), (Nat.le_of_ble_eq_true rfl)⟩) hS hP (fun r1 H locs hr1 hP hS => ?_)
  subst hr1
  refine lv_if_eq (tgt := 51) hx hb dX7_dense_5 (by decide) (fun c2 => ?_) (fun c2 => absurd (by decide +kernel) c2)
  refine lv_iconst (v := (-1)) hx hb dX7_dense_51 (by decide +kernel) ?_
  exact W.iret (v := (-1)) hx hb hr (fun t ht hW => ⟨⟨(-1), (), rfl, rfl, trivial⟩, hS.F ht⟩) hS.2.2 dX7_dense_52

set_option maxHeartbeats 4000000 in
set_option maxRecDepth 100000 in
theorem c_X7_dots (l : Launch) (dC : Nat → ClassId) (dI : Nat → Nat → Nat) (h0 mnw mhd mas mps msf mdt mhdd masd mpsd msfd mkp mtp mld mmd men mil mqu mbx : Nat) (kI : ClassId) (sz : Nat) (p0 : Int32) (p1 : Int32) (p2 : Int32) : Met l yX7_dots (.code yX7_dots cX7_dots 4 (some .int) :: pw) ({ frames := 2, cells := 0, slots := 0, locals := 46 }) (pc (dC, dI) [.ref h0, .int p0, .int p1, .int p2] sz [(h0, .inr (7, [.ref mnw, .ref mhd, .ref mas, .ref mps, .ref msf, .ref mdt, .ref mhdd, .ref masd, .ref mpsd, .ref msfd, .ref mkp, .int 0, .ref mtp, .int 0, .int 0, .int 0, .int 0, .ref mld, .int 0, .ref mmd, .ref men, .ref mil, .ref mqu, .int 0, .int 0, .ref mbx])), (mnw, .inl (kI, 99, .inl (fun _ => 0)))] [(kI, .int)]) (va_Qi (fun (r : Int32) (_ : Unit) => r = (-1)) (fun _ _ => True) (fun _ => False)) 0 0 (fun _ => False) := by
  refine Met.ofW (cc := cX7_dots) (maxL := 4) (ret := (some .int)) (by decide +kernel) rfl ?_
  intro p e s m args below meth c s₁ B hml hv
  obtain ⟨rfl, hsz, hP, hK, hD0, hN⟩ := hv
  have hx := B.exec
  have hb := B.bytes
  have hr := B.returns
  have hts := fun w (h : w ∈ pw) => atoms_spec (ws := Cond.code yX7_dots cX7_dots 4 (some .int) :: pw) B.pre w (List.mem_cons_of_mem _ h)
  have hown : s.vm.findClass RX7 = some m.cls := findClass_of_methodNamed B.named
  have hlocks := B.notSynchronized
  subst hsz
  have hD := hD0
  obtain ⟨H, hHe⟩ : ∃ H : Heap, H = s.heap := ⟨_, rfl⟩
  have hS : va_S (fun _ => False) s.heap H [] := by rw [hHe]; exact va_S.rf
  rw [← hHe] at hP
  have hl := lv_entry ([.ref h0, .int p0, .int p1, .int p2]) (n := 4) (Nat.le_of_ble_eq_true rfl)
  rw [lg_entry_eq]
  generalize (lg_sl ([.ref h0, .int p0, .int p1, .int p2]) ++ List.replicate (4 - (lg_sl ([.ref h0, .int p0, .int p1, .int p2])).length) Slot.unset).toArray = ls at hl ⊢
  have hl : lv_has ls 4 [(0, .ref h0), (1, .int p0), (2, .int p1), (3, .int p2)] := hl
  rw [← hHe]
  refine lv_aload_n hx hb dX7_dots_0 rfl (lv_at hl 0 rfl) ?_
  refine lv_iload_n hx hb dX7_dots_1 rfl (lv_at hl 1 rfl) ?_
  have hPc := hP.sub (ws' := [(h0, .inr (7, [.ref mnw, .ref mhd, .ref mas, .ref mps, .ref msf, .ref mdt, .ref mhdd, .ref masd, .ref mpsd, .ref msfd, .ref mkp, .int 0, .ref mtp, .int 0, .int 0, .int 0, .int 0, .ref mld, .int 0, .ref mmd, .ref men, .ref mil, .ref mqu, .int 0, .int 0, .ref mbx])), (mnw, .inl (kI, 99, .inl (fun _ => 0)))]) [0, 1] rfl
  have hDc := hD.sub (ws' := [(h0, .inr (7, [.ref mnw, .ref mhd, .ref mas, .ref mps, .ref msf, .ref mdt, .ref mhdd, .ref masd, .ref mpsd, .ref msfd, .ref mkp, .int 0, .ref mtp, .int 0, .int 0, .int 0, .int 0, .ref mld, .int 0, .ref mmd, .ref men, .ref mil, .ref mqu, .int 0, .int 0, .ref mbx])), (mnw, .inl (kI, 99, .inl (fun _ => 0)))]) [0, 1] (by decide) rfl
  have hKc := hK.sub (tys' := [(kI, .int)]) [0] rfl
  refine ro_i (va_runV (As := [.int p0]) (rest := []) ⟨hx, hb, hml, hown, hts⟩ (c_X7_isMask l dC dI h0 mnw mhd mas mps msf mdt mhdd masd mpsd msfd mkp mtp mld mmd men mil mqu mbx kI H.size p0 ) (cwV 1 hts (gV pq1364 pq1366 pq31 pq81 pq1367) rfl rfl rfl (by decide +kernel) ⟨(Nat.le_of_ble_eq_true rfl), (Nat.le_of_ble_eq_true rfl)⟩) (pc_V hPc hDc hKc hN (va_recv hK hP (ci := 7) (q0 := 0) rfl rfl)) rfl rfl hl.1 rfl (lv_room (Nat.le_of_ble_eq_true rfl)) dX7_dots_2 ⟨(Nat.le_of_ble_eq_true rfl), (Nat.le_of_ble_eq_true rfl)⟩) hS hP (fun r1 H locs hr1 hP hS => ?_)
  subst hr1
  refine lv_if_eq (tgt := 37) hx hb dX7_dots_5 (by decide) (fun c2 => ?_) (fun c2 => absurd (by decide +kernel) c2)
  refine lv_iconst (v := (-1)) hx hb dX7_dots_37 (by decide +kernel) ?_
  exact W.iret (v := (-1)) hx hb hr (fun t ht hW => ⟨⟨(-1), (), rfl, rfl, trivial⟩, hS.F ht⟩) hS.2.2 dX7_dots_38

set_option maxHeartbeats 4000000 in
set_option maxRecDepth 100000 in
theorem c_X7_spread (l : Launch) (dC : Nat → ClassId) (dI : Nat → Nat → Nat) (h0 mnw mhd mas mps msf mdt mhdd masd mpsd msfd mkp mtp mld mmd men mil mqu mbx : Nat) (kI : ClassId) (sz : Nat) (p0 : Int32) (p1 : Int32) : Met l yX7_spread (.code yX7_spread cX7_spread 6 (some .int) :: pw) ({ frames := 2, cells := 0, slots := 0, locals := 46 }) (pc (dC, dI) [.ref h0, .int p0, .int p1] sz [(h0, .inr (7, [.ref mnw, .ref mhd, .ref mas, .ref mps, .ref msf, .ref mdt, .ref mhdd, .ref masd, .ref mpsd, .ref msfd, .ref mkp, .int 0, .ref mtp, .int 0, .int 0, .int 0, .int 0, .ref mld, .int 0, .ref mmd, .ref men, .ref mil, .ref mqu, .int 0, .int 0, .ref mbx])), (mnw, .inl (kI, 99, .inl (fun _ => 0)))] [(kI, .int)]) (va_Qi (fun (r : Int32) (_ : Unit) => r = (-1)) (fun _ _ => True) (fun _ => False)) 0 0 (fun _ => False) := by
  refine Met.ofW (cc := cX7_spread) (maxL := 6) (ret := (some .int)) (by decide +kernel) rfl ?_
  intro p e s m args below meth c s₁ B hml hv
  obtain ⟨rfl, hsz, hP, hK, hD0, hN⟩ := hv
  have hx := B.exec
  have hb := B.bytes
  have hr := B.returns
  have hts := fun w (h : w ∈ pw) => atoms_spec (ws := Cond.code yX7_spread cX7_spread 6 (some .int) :: pw) B.pre w (List.mem_cons_of_mem _ h)
  have hown : s.vm.findClass RX7 = some m.cls := findClass_of_methodNamed B.named
  have hlocks := B.notSynchronized
  subst hsz
  have hD := hD0
  obtain ⟨H, hHe⟩ : ∃ H : Heap, H = s.heap := ⟨_, rfl⟩
  have hS : va_S (fun _ => False) s.heap H [] := by rw [hHe]; exact va_S.rf
  rw [← hHe] at hP
  have hl := lv_entry ([.ref h0, .int p0, .int p1]) (n := 6) (Nat.le_of_ble_eq_true rfl)
  rw [lg_entry_eq]
  generalize (lg_sl ([.ref h0, .int p0, .int p1]) ++ List.replicate (6 - (lg_sl ([.ref h0, .int p0, .int p1])).length) Slot.unset).toArray = ls at hl ⊢
  have hl : lv_has ls 6 [(0, .ref h0), (1, .int p0), (2, .int p1)] := hl
  rw [← hHe]
  refine lv_aload_n hx hb dX7_spread_0 rfl (lv_at hl 0 rfl) ?_
  refine lv_iload_n hx hb dX7_spread_1 rfl (lv_at hl 1 rfl) ?_
  have hPc := hP.sub (ws' := [(h0, .inr (7, [.ref mnw, .ref mhd, .ref mas, .ref mps, .ref msf, .ref mdt, .ref mhdd, .ref masd, .ref mpsd, .ref msfd, .ref mkp, .int 0, .ref mtp, .int 0, .int 0, .int 0, .int 0, .ref mld, .int 0, .ref mmd, .ref men, .ref mil, .ref mqu, .int 0, .int 0, .ref mbx])), (mnw, .inl (kI, 99, .inl (fun _ => 0)))]) [0, 1] rfl
  have hDc := hD.sub (ws' := [(h0, .inr (7, [.ref mnw, .ref mhd, .ref mas, .ref mps, .ref msf, .ref mdt, .ref mhdd, .ref masd, .ref mpsd, .ref msfd, .ref mkp, .int 0, .ref mtp, .int 0, .int 0, .int 0, .int 0, .ref mld, .int 0, .ref mmd, .ref men, .ref mil, .ref mqu, .int 0, .int 0, .ref mbx])), (mnw, .inl (kI, 99, .inl (fun _ => 0)))]) [0, 1] (by decide) rfl
  have hKc := hK.sub (tys' := [(kI, .int)]) [0] rfl
  refine ro_i (va_runV (As := [.int p0]) (rest := []) ⟨hx, hb, hml, hown, hts⟩ (c_X7_isMask l dC dI h0 mnw mhd mas mps msf mdt mhdd masd mpsd msfd mkp mtp mld mmd men mil mqu mbx kI H.size p0 ) (cwV 1 hts (gV pq1364 pq1366 pq31 pq81 pq1367) rfl rfl rfl (by decide +kernel) ⟨(Nat.le_of_ble_eq_true rfl), (Nat.le_of_ble_eq_true rfl)⟩) (pc_V hPc hDc hKc hN (va_recv hK hP (ci := 7) (q0 := 0) rfl rfl)) rfl rfl hl.1 rfl (lv_room (Nat.le_of_ble_eq_true rfl)) dX7_spread_2 ⟨(Nat.le_of_ble_eq_true rfl), (Nat.le_of_ble_eq_true rfl)⟩) hS hP (fun r1 H locs hr1 hP hS => ?_)
  subst hr1
  refine lv_if_eq (tgt := 20) hx hb dX7_spread_5 (by decide) (fun c2 => ?_) (fun c2 => absurd (by decide +kernel) c2)
  refine lv_iconst (v := (-1)) hx hb dX7_spread_20 (by decide +kernel) ?_
  exact W.iret (v := (-1)) hx hb hr (fun t ht hW => ⟨⟨(-1), (), rfl, rfl, trivial⟩, hS.F ht⟩) hS.2.2 dX7_spread_21

set_option maxHeartbeats 4000000 in
set_option maxRecDepth 100000 in
theorem c_X7_share (l : Launch) (dC : Nat → ClassId) (dI : Nat → Nat → Nat) (h0 mnw mhd mas mps msf mdt mhdd masd mpsd msfd mkp mtp mld mmd men mil mqu mbx : Nat) (kI : ClassId) (sz : Nat) (p0 : Int32) : Met l yX7_share (.code yX7_share cX7_share 2 (some .long) :: pw) ({ frames := 2, cells := 0, slots := 0, locals := 46 }) (pc (dC, dI) [.ref h0, .int p0] sz [(h0, .inr (7, [.ref mnw, .ref mhd, .ref mas, .ref mps, .ref msf, .ref mdt, .ref mhdd, .ref masd, .ref mpsd, .ref msfd, .ref mkp, .int 0, .ref mtp, .int 0, .int 0, .int 0, .int 0, .ref mld, .int 0, .ref mmd, .ref men, .ref mil, .ref mqu, .int 0, .int 0, .ref mbx])), (mnw, .inl (kI, 99, .inl (fun _ => 0)))] [(kI, .int)]) (va_Ql (fun (r : Int64) (_ : Unit) => r = (-1)) (fun _ _ => True) (fun _ => False)) 0 0 (fun _ => False) := by
  refine Met.ofW (cc := cX7_share) (maxL := 2) (ret := (some .long)) (by decide +kernel) rfl ?_
  intro p e s m args below meth c s₁ B hml hv
  obtain ⟨rfl, hsz, hP, hK, hD0, hN⟩ := hv
  have hx := B.exec
  have hb := B.bytes
  have hr := B.returns
  have hts := fun w (h : w ∈ pw) => atoms_spec (ws := Cond.code yX7_share cX7_share 2 (some .long) :: pw) B.pre w (List.mem_cons_of_mem _ h)
  have hown : s.vm.findClass RX7 = some m.cls := findClass_of_methodNamed B.named
  have hlocks := B.notSynchronized
  subst hsz
  have hD := hD0
  obtain ⟨H, hHe⟩ : ∃ H : Heap, H = s.heap := ⟨_, rfl⟩
  have hS : va_S (fun _ => False) s.heap H [] := by rw [hHe]; exact va_S.rf
  rw [← hHe] at hP
  have hl := lv_entry ([.ref h0, .int p0]) (n := 2) (Nat.le_of_ble_eq_true rfl)
  rw [lg_entry_eq]
  generalize (lg_sl ([.ref h0, .int p0]) ++ List.replicate (2 - (lg_sl ([.ref h0, .int p0])).length) Slot.unset).toArray = ls at hl ⊢
  have hl : lv_has ls 2 [(0, .ref h0), (1, .int p0)] := hl
  rw [← hHe]
  refine lv_aload_n hx hb dX7_share_0 rfl (lv_at hl 0 rfl) ?_
  refine lv_iload_n hx hb dX7_share_1 rfl (lv_at hl 1 rfl) ?_
  have hPc := hP.sub (ws' := [(h0, .inr (7, [.ref mnw, .ref mhd, .ref mas, .ref mps, .ref msf, .ref mdt, .ref mhdd, .ref masd, .ref mpsd, .ref msfd, .ref mkp, .int 0, .ref mtp, .int 0, .int 0, .int 0, .int 0, .ref mld, .int 0, .ref mmd, .ref men, .ref mil, .ref mqu, .int 0, .int 0, .ref mbx])), (mnw, .inl (kI, 99, .inl (fun _ => 0)))]) [0, 1] rfl
  have hDc := hD.sub (ws' := [(h0, .inr (7, [.ref mnw, .ref mhd, .ref mas, .ref mps, .ref msf, .ref mdt, .ref mhdd, .ref masd, .ref mpsd, .ref msfd, .ref mkp, .int 0, .ref mtp, .int 0, .int 0, .int 0, .int 0, .ref mld, .int 0, .ref mmd, .ref men, .ref mil, .ref mqu, .int 0, .int 0, .ref mbx])), (mnw, .inl (kI, 99, .inl (fun _ => 0)))]) [0, 1] (by decide) rfl
  have hKc := hK.sub (tys' := [(kI, .int)]) [0] rfl
  refine ro_i (va_runV (As := [.int p0]) (rest := []) ⟨hx, hb, hml, hown, hts⟩ (c_X7_isMask l dC dI h0 mnw mhd mas mps msf mdt mhdd masd mpsd msfd mkp mtp mld mmd men mil mqu mbx kI H.size p0 ) (cwV 1 hts (gV pq1364 pq1366 pq31 pq81 pq1367) rfl rfl rfl (by decide +kernel) ⟨(Nat.le_of_ble_eq_true rfl), (Nat.le_of_ble_eq_true rfl)⟩) (pc_V hPc hDc hKc hN (va_recv hK hP (ci := 7) (q0 := 0) rfl rfl)) rfl rfl hl.1 rfl (lv_room (Nat.le_of_ble_eq_true rfl)) dX7_share_2 ⟨(Nat.le_of_ble_eq_true rfl), (Nat.le_of_ble_eq_true rfl)⟩) hS hP (fun r1 H locs hr1 hP hS => ?_)
  subst hr1
  refine lv_if_eq (tgt := 33) hx hb dX7_share_5 (by decide) (fun c2 => ?_) (fun c2 => absurd (by decide +kernel) c2)
  refine lv_ldc2 hx hb hown (hts _ pq1712) dX7_share_33 ?_
  exact W.lret (v := (-1)) hx hb hr (fun t ht hW => ⟨⟨(-1), (), rfl, rfl, trivial⟩, hS.F ht⟩) hS.2.2 dX7_share_36

set_option maxHeartbeats 4000000 in
set_option maxRecDepth 100000 in
theorem c_X7_alike (l : Launch) (dC : Nat → ClassId) (dI : Nat → Nat → Nat) (h0 mnw mhd mas mps msf mdt mhdd masd mpsd msfd mkp mtp mld mmd men mil mqu mbx : Nat) (kI : ClassId) (sz : Nat) (p0 : Int32) (p1 : Int32) (p2 : Int32) : Met l yX7_alike (.code yX7_alike cX7_alike 4 (some .int) :: pw) ({ frames := 2, cells := 0, slots := 0, locals := 46 }) (pc (dC, dI) [.ref h0, .int p0, .int p1, .int p2] sz [(h0, .inr (7, [.ref mnw, .ref mhd, .ref mas, .ref mps, .ref msf, .ref mdt, .ref mhdd, .ref masd, .ref mpsd, .ref msfd, .ref mkp, .int 0, .ref mtp, .int 0, .int 0, .int 0, .int 0, .ref mld, .int 0, .ref mmd, .ref men, .ref mil, .ref mqu, .int 0, .int 0, .ref mbx])), (mnw, .inl (kI, 99, .inl (fun _ => 0)))] [(kI, .int)]) (va_Qi (fun (r : Int32) (_ : Unit) => r = (-1)) (fun _ _ => True) (fun _ => False)) 0 0 (fun _ => False) := by
  refine Met.ofW (cc := cX7_alike) (maxL := 4) (ret := (some .int)) (by decide +kernel) rfl ?_
  intro p e s m args below meth c s₁ B hml hv
  obtain ⟨rfl, hsz, hP, hK, hD0, hN⟩ := hv
  have hx := B.exec
  have hb := B.bytes
  have hr := B.returns
  have hts := fun w (h : w ∈ pw) => atoms_spec (ws := Cond.code yX7_alike cX7_alike 4 (some .int) :: pw) B.pre w (List.mem_cons_of_mem _ h)
  have hown : s.vm.findClass RX7 = some m.cls := findClass_of_methodNamed B.named
  have hlocks := B.notSynchronized
  subst hsz
  have hD := hD0
  obtain ⟨H, hHe⟩ : ∃ H : Heap, H = s.heap := ⟨_, rfl⟩
  have hS : va_S (fun _ => False) s.heap H [] := by rw [hHe]; exact va_S.rf
  rw [← hHe] at hP
  have hl := lv_entry ([.ref h0, .int p0, .int p1, .int p2]) (n := 4) (Nat.le_of_ble_eq_true rfl)
  rw [lg_entry_eq]
  generalize (lg_sl ([.ref h0, .int p0, .int p1, .int p2]) ++ List.replicate (4 - (lg_sl ([.ref h0, .int p0, .int p1, .int p2])).length) Slot.unset).toArray = ls at hl ⊢
  have hl : lv_has ls 4 [(0, .ref h0), (1, .int p0), (2, .int p1), (3, .int p2)] := hl
  rw [← hHe]
  refine lv_aload_n hx hb dX7_alike_0 rfl (lv_at hl 0 rfl) ?_
  refine lv_iload_n hx hb dX7_alike_1 rfl (lv_at hl 1 rfl) ?_
  have hPc := hP.sub (ws' := [(h0, .inr (7, [.ref mnw, .ref mhd, .ref mas, .ref mps, .ref msf, .ref mdt, .ref mhdd, .ref masd, .ref mpsd, .ref msfd, .ref mkp, .int 0, .ref mtp, .int 0, .int 0, .int 0, .int 0, .ref mld, .int 0, .ref mmd, .ref men, .ref mil, .ref mqu, .int 0, .int 0, .ref mbx])), (mnw, .inl (kI, 99, .inl (fun _ => 0)))]) [0, 1] rfl
  have hDc := hD.sub (ws' := [(h0, .inr (7, [.ref mnw, .ref mhd, .ref mas, .ref mps, .ref msf, .ref mdt, .ref mhdd, .ref masd, .ref mpsd, .ref msfd, .ref mkp, .int 0, .ref mtp, .int 0, .int 0, .int 0, .int 0, .ref mld, .int 0, .ref mmd, .ref men, .ref mil, .ref mqu, .int 0, .int 0, .ref mbx])), (mnw, .inl (kI, 99, .inl (fun _ => 0)))]) [0, 1] (by decide) rfl
  have hKc := hK.sub (tys' := [(kI, .int)]) [0] rfl
  refine ro_i (va_runV (As := [.int p0]) (rest := []) ⟨hx, hb, hml, hown, hts⟩ (c_X7_isMask l dC dI h0 mnw mhd mas mps msf mdt mhdd masd mpsd msfd mkp mtp mld mmd men mil mqu mbx kI H.size p0 ) (cwV 1 hts (gV pq1364 pq1366 pq31 pq81 pq1367) rfl rfl rfl (by decide +kernel) ⟨(Nat.le_of_ble_eq_true rfl), (Nat.le_of_ble_eq_true rfl)⟩) (pc_V hPc hDc hKc hN (va_recv hK hP (ci := 7) (q0 := 0) rfl rfl)) rfl rfl hl.1 rfl (lv_room (Nat.le_of_ble_eq_true rfl)) dX7_alike_2 ⟨(Nat.le_of_ble_eq_true rfl), (Nat.le_of_ble_eq_true rfl)⟩) hS hP (fun r1 H locs hr1 hP hS => ?_)
  subst hr1
  refine lv_if_eq (tgt := 41) hx hb dX7_alike_5 (by decide) (fun c2 => ?_) (fun c2 => absurd (by decide +kernel) c2)
  refine lv_iconst (v := (-1)) hx hb dX7_alike_41 (by decide +kernel) ?_
  exact W.iret (v := (-1)) hx hb hr (fun t ht hW => ⟨⟨(-1), (), rfl, rfl, trivial⟩, hS.F ht⟩) hS.2.2 dX7_alike_42
end
section

theorem upd00 (k : Nat) : upd (fun _ => (0 : Int32)) k 0 = (fun _ => 0) := by
  funext j
  unfold upd
  split <;> rfl
theorem updL00 (k : Nat) : vp_updL (fun _ => (0 : Int64)) k 0 = (fun _ => 0) := by
  funext j
  unfold vp_updL
  split <;> rfl
theorem namedW {p : Program} {l : Launch} {e : Env} {R : Room} {s : State} {m : MethodId} {args : Array Value} {below : List Frame} {meth : Method} {c : Code} {H : Heap} {locs : List Loc} {cells slots : Nat} {Q : State → Prop} {g : JFrame} (h : ∀ (R' : Room) (Q' : State → Prop), R' = R → Q' = Q → W p l e R' s m args below meth c H locs cells slots Q' g) : W p l e R s m args below meth c H locs cells slots Q g := h R Q rfl rfl
theorem loopW {α : Type} (I G : α → Array Slot → Heap → List Loc → Prop) (mu : α → Nat) (hs : ∀ x ls H lo, I x ls H lo → (∀ x' ls' H' lo', I x' ls' H' lo' → mu x' < mu x → G x' ls' H' lo') → G x ls H lo) : ∀ x ls H lo, I x ls H lo → G x ls H lo := by
  have key : ∀ (n : Nat) (x : α), mu x < n → ∀ ls H lo, I x ls H lo → G x ls H lo := by
    intro n
    induction n with
    | zero => intro x h; exact absurd h (Nat.not_lt_zero _)
    | succ n ih => intro x h ls H lo hI; exact hs x ls H lo hI (fun x' ls' H' lo' hI' hm => ih x' (Nat.lt_of_lt_of_le hm (Nat.le_of_lt_succ h)) ls' H' lo' hI')
  exact fun x => key (mu x + 1) x (Nat.lt_succ_self _)
theorem nI_ltb {j n : Nat} (hj : j < 2 ^ 31) (c : ¬ nI n ≤ nI j) : j < n := Nat.not_le.mp (fun h => c (nI_le h hj))
theorem in_add (a j n : Nat) (A : Int32) (hA : A = nI a) (h : a + j < n) (hn : n < 2 ^ 31) : vp_in (A + nI j) n := by
  rw [hA, nI_add]
  exact vp_in_nI h hn
theorem sw7 (x : Int32) : x = 0 ∨ x = 1 ∨ x = 2 ∨ x = 3 ∨ x = 4 ∨ x = 5 ∨ x = 6 ∨ (x.toInt < 0 ∨ 6 < x.toInt) := by
  rcases Int.lt_or_le x.toInt 0 with h | h
  · exact Or.inr (Or.inr (Or.inr (Or.inr (Or.inr (Or.inr (Or.inr (Or.inl h)))))))
  · rcases Int.lt_or_le 6 x.toInt with h2 | h2
    · exact Or.inr (Or.inr (Or.inr (Or.inr (Or.inr (Or.inr (Or.inr (Or.inr h2)))))))
    · have e : ∀ y : Int32, x.toInt = y.toInt → x = y := fun y h => Int32.toInt_inj.mp h
      have h3 : x.toInt = 0 ∨ x.toInt = 1 ∨ x.toInt = 2 ∨ x.toInt = 3 ∨ x.toInt = 4 ∨ x.toInt = 5 ∨ x.toInt = 6 := by omega
      rcases h3 with h3 | h3 | h3 | h3 | h3 | h3 | h3
      · exact Or.inl (e 0 h3)
      · exact Or.inr (Or.inl (e 1 h3))
      · exact Or.inr (Or.inr (Or.inl (e 2 h3)))
      · exact Or.inr (Or.inr (Or.inr (Or.inl (e 3 h3))))
      · exact Or.inr (Or.inr (Or.inr (Or.inr (Or.inl (e 4 h3)))))
      · exact Or.inr (Or.inr (Or.inr (Or.inr (Or.inr (Or.inl (e 5 h3))))))
      · exact Or.inr (Or.inr (Or.inr (Or.inr (Or.inr (Or.inr (Or.inl (e 6 h3)))))))
end
section
def yX1_dotsOfAll : MethodName := ⟨RX1, "dotsOfAll", "()I"⟩
abbrev cX1_dotsOfAll : ByteArray := prog_3_method_4_code
abbrev cX6_at : ByteArray := prog_1_method_49_code
abbrev cX6_back : ByteArray := prog_1_method_26_code
abbrev cX6_contact : ByteArray := prog_1_method_45_code
abbrev cX6_count : ByteArray := prog_1_method_59_code
abbrev cX6_digest : ByteArray := prog_1_method_58_code
abbrev cX6_end : ByteArray := prog_1_method_4_code
abbrev cX6_falls : ByteArray := prog_1_method_21_code
abbrev cX6_sieve : ByteArray := prog_1_method_46_code
abbrev cX6_undo : ByteArray := prog_1_method_24_code
def yX6_at : MethodName := ⟨RX6, "at", "(II)I"⟩
def yX6_back : MethodName := ⟨RX6, "back", "(I)I"⟩
def yX6_contact : MethodName := ⟨RX6, "contact", "(I)I"⟩
def yX6_count : MethodName := ⟨RX6, "count", "(I)I"⟩
def yX6_digest : MethodName := ⟨RX6, "digest", "()J"⟩
def yX6_end : MethodName := ⟨RX6, "end", "(I)I"⟩
def yX6_falls : MethodName := ⟨RX6, "falls", "()I"⟩
def yX6_sieve : MethodName := ⟨RX6, "sieve", "(I)I"⟩
def yX6_undo : MethodName := ⟨RX6, "undo", "()I"⟩
theorem dX1_dotsOfAll_0 : decode cX1_dotsOfAll 0 = .ok (.iconst 0, 1) := by decide +kernel
theorem dX1_dotsOfAll_1 : decode cX1_dotsOfAll 1 = .ok (.istore_n 1, 1) := by decide +kernel
theorem dX1_dotsOfAll_2 : decode cX1_dotsOfAll 2 = .ok (.iconst 0, 1) := by decide +kernel
theorem dX1_dotsOfAll_3 : decode cX1_dotsOfAll 3 = .ok (.istore_n 2, 1) := by decide +kernel
theorem dX1_dotsOfAll_4 : decode cX1_dotsOfAll 4 = .ok (.iload_n 2, 1) := by decide +kernel
theorem dX1_dotsOfAll_5 : decode cX1_dotsOfAll 5 = .ok (.aload_n 0, 1) := by decide +kernel
theorem dX1_dotsOfAll_6 : decode cX1_dotsOfAll 6 = .ok (.getfield 23, 3) := by decide +kernel
theorem dX1_dotsOfAll_9 : decode cX1_dotsOfAll 9 = .ok (.if_icmp .ge 21, 3) := by decide +kernel
theorem dX1_dotsOfAll_30 : decode cX1_dotsOfAll 30 = .ok (.iload_n 1, 1) := by decide +kernel
theorem dX1_dotsOfAll_31 : decode cX1_dotsOfAll 31 = .ok (.ireturn, 1) := by decide +kernel
theorem dX6_at_0 : decode cX6_at 0 = .ok (.iconst 0, 1) := by decide +kernel
theorem dX6_at_1 : decode cX6_at 1 = .ok (.istore_n 3, 1) := by decide +kernel
theorem dX6_at_2 : decode cX6_at 2 = .ok (.iconst 0, 1) := by decide +kernel
theorem dX6_at_3 : decode cX6_at 3 = .ok (.istore 4, 2) := by decide +kernel
theorem dX6_at_5 : decode cX6_at 5 = .ok (.iload 4, 2) := by decide +kernel
theorem dX6_at_7 : decode cX6_at 7 = .ok (.aload_n 0, 1) := by decide +kernel
theorem dX6_at_8 : decode cX6_at 8 = .ok (.getfield 20, 3) := by decide +kernel
theorem dX6_at_11 : decode cX6_at 11 = .ok (.getfield 83, 3) := by decide +kernel
theorem dX6_at_14 : decode cX6_at 14 = .ok (.if_icmp .ge 30, 3) := by decide +kernel
theorem dX6_at_44 : decode cX6_at 44 = .ok (.iload_n 3, 1) := by decide +kernel
theorem dX6_at_45 : decode cX6_at 45 = .ok (.ireturn, 1) := by decide +kernel
theorem dX6_back_0 : decode cX6_back 0 = .ok (.iload_n 1, 1) := by decide +kernel
theorem dX6_back_1 : decode cX6_back 1 = .ok (.iconst 1, 1) := by decide +kernel
theorem dX6_back_2 : decode cX6_back 2 = .ok (.invokestatic 109, 3) := by decide +kernel
theorem dX6_back_5 : decode cX6_back 5 = .ok (.ifCond .ne 5, 3) := by decide +kernel
theorem dX6_back_8 : decode cX6_back 8 = .ok (.iconst (-1), 1) := by decide +kernel
theorem dX6_back_9 : decode cX6_back 9 = .ok (.ireturn, 1) := by decide +kernel
theorem dX6_back_10 : decode cX6_back 10 = .ok (.aload_n 0, 1) := by decide +kernel
theorem dX6_back_11 : decode cX6_back 11 = .ok (.getfield 69, 3) := by decide +kernel
theorem dX6_back_14 : decode cX6_back 14 = .ok (.iload_n 1, 1) := by decide +kernel
theorem dX6_back_15 : decode cX6_back 15 = .ok (.aaload, 1) := by decide +kernel
theorem dX6_back_16 : decode cX6_back 16 = .ok (.astore_n 2, 1) := by decide +kernel
theorem dX6_back_17 : decode cX6_back 17 = .ok (.aload_n 2, 1) := by decide +kernel
theorem dX6_back_18 : decode cX6_back 18 = .ok (.ifnonnull 6, 3) := by decide +kernel
theorem dX6_back_21 : decode cX6_back 21 = .ok (.bipush (-2), 2) := by decide +kernel
theorem dX6_back_23 : decode cX6_back 23 = .ok (.ireturn, 1) := by decide +kernel
theorem dX6_contact_0 : decode cX6_contact 0 = .ok (.iload_n 1, 1) := by decide +kernel
theorem dX6_contact_1 : decode cX6_contact 1 = .ok (.iconst (-1), 1) := by decide +kernel
theorem dX6_contact_2 : decode cX6_contact 2 = .ok (.if_icmp .ge 5, 3) := by decide +kernel
theorem dX6_contact_5 : decode cX6_contact 5 = .ok (.iconst (-1), 1) := by decide +kernel
theorem dX6_contact_6 : decode cX6_contact 6 = .ok (.ireturn, 1) := by decide +kernel
theorem dX6_contact_7 : decode cX6_contact 7 = .ok (.iconst 0, 1) := by decide +kernel
theorem dX6_contact_8 : decode cX6_contact 8 = .ok (.istore_n 2, 1) := by decide +kernel
theorem dX6_contact_9 : decode cX6_contact 9 = .ok (.iconst 0, 1) := by decide +kernel
theorem dX6_contact_10 : decode cX6_contact 10 = .ok (.istore_n 3, 1) := by decide +kernel
theorem dX6_contact_11 : decode cX6_contact 11 = .ok (.iload_n 3, 1) := by decide +kernel
theorem dX6_contact_12 : decode cX6_contact 12 = .ok (.aload_n 0, 1) := by decide +kernel
theorem dX6_contact_13 : decode cX6_contact 13 = .ok (.getfield 20, 3) := by decide +kernel
theorem dX6_contact_16 : decode cX6_contact 16 = .ok (.getfield 83, 3) := by decide +kernel
theorem dX6_contact_19 : decode cX6_contact 19 = .ok (.if_icmp .ge 63, 3) := by decide +kernel
theorem dX6_contact_82 : decode cX6_contact 82 = .ok (.iload_n 1, 1) := by decide +kernel
theorem dX6_contact_83 : decode cX6_contact 83 = .ok (.iconst (-1), 1) := by decide +kernel
theorem dX6_contact_84 : decode cX6_contact 84 = .ok (.if_icmp .ne 7, 3) := by decide +kernel
theorem dX6_contact_87 : decode cX6_contact 87 = .ok (.iload_n 2, 1) := by decide +kernel
theorem dX6_contact_88 : decode cX6_contact 88 = .ok (.goto 5, 3) := by decide +kernel
theorem dX6_contact_91 : decode cX6_contact 91 = .ok (.bipush (-2), 2) := by decide +kernel
theorem dX6_contact_93 : decode cX6_contact 93 = .ok (.ireturn, 1) := by decide +kernel
theorem dX6_count_0 : decode cX6_count 0 = .ok (.iload_n 1, 1) := by decide +kernel
theorem dX6_count_1 : decode cX6_count 1 = .ok (.tableswitch 115 0 6 #[43, 51, 59, 67, 72, 77, 107], 43) := by decide +kernel
theorem dX6_count_44 : decode cX6_count 44 = .ok (.aload_n 0, 1) := by decide +kernel
theorem dX6_count_45 : decode cX6_count 45 = .ok (.getfield 20, 3) := by decide +kernel
theorem dX6_count_48 : decode cX6_count 48 = .ok (.getfield 367, 3) := by decide +kernel
theorem dX6_count_51 : decode cX6_count 51 = .ok (.ireturn, 1) := by decide +kernel
theorem dX6_count_52 : decode cX6_count 52 = .ok (.aload_n 0, 1) := by decide +kernel
theorem dX6_count_53 : decode cX6_count 53 = .ok (.getfield 20, 3) := by decide +kernel
theorem dX6_count_56 : decode cX6_count 56 = .ok (.getfield 83, 3) := by decide +kernel
theorem dX6_count_59 : decode cX6_count 59 = .ok (.ireturn, 1) := by decide +kernel
theorem dX6_count_60 : decode cX6_count 60 = .ok (.aload_n 0, 1) := by decide +kernel
theorem dX6_count_61 : decode cX6_count 61 = .ok (.getfield 20, 3) := by decide +kernel
theorem dX6_count_64 : decode cX6_count 64 = .ok (.invokevirtual 370, 3) := by decide +kernel
theorem dX6_count_67 : decode cX6_count 67 = .ok (.ireturn, 1) := by decide +kernel
theorem dX6_count_68 : decode cX6_count 68 = .ok (.aload_n 0, 1) := by decide +kernel
theorem dX6_count_69 : decode cX6_count 69 = .ok (.getfield 66, 3) := by decide +kernel
theorem dX6_count_72 : decode cX6_count 72 = .ok (.ireturn, 1) := by decide +kernel
theorem dX6_count_73 : decode cX6_count 73 = .ok (.aload_n 0, 1) := by decide +kernel
theorem dX6_count_74 : decode cX6_count 74 = .ok (.getfield 13, 3) := by decide +kernel
theorem dX6_count_77 : decode cX6_count 77 = .ok (.ireturn, 1) := by decide +kernel
theorem dX6_count_78 : decode cX6_count 78 = .ok (.aload_n 0, 1) := by decide +kernel
theorem dX6_count_79 : decode cX6_count 79 = .ok (.getfield 69, 3) := by decide +kernel
theorem dX6_count_82 : decode cX6_count 82 = .ok (.iconst 0, 1) := by decide +kernel
theorem dX6_count_83 : decode cX6_count 83 = .ok (.aaload, 1) := by decide +kernel
theorem dX6_count_84 : decode cX6_count 84 = .ok (.ifnull 7, 3) := by decide +kernel
theorem dX6_count_91 : decode cX6_count 91 = .ok (.iconst 0, 1) := by decide +kernel
theorem dX6_count_92 : decode cX6_count 92 = .ok (.aload_n 0, 1) := by decide +kernel
theorem dX6_count_93 : decode cX6_count 93 = .ok (.getfield 69, 3) := by decide +kernel
theorem dX6_count_96 : decode cX6_count 96 = .ok (.iconst 1, 1) := by decide +kernel
theorem dX6_count_97 : decode cX6_count 97 = .ok (.aaload, 1) := by decide +kernel
theorem dX6_count_98 : decode cX6_count 98 = .ok (.ifnull 7, 3) := by decide +kernel
theorem dX6_count_105 : decode cX6_count 105 = .ok (.iconst 0, 1) := by decide +kernel
theorem dX6_count_106 : decode cX6_count 106 = .ok (.iadd, 1) := by decide +kernel
theorem dX6_count_107 : decode cX6_count 107 = .ok (.ireturn, 1) := by decide +kernel
theorem dX6_count_108 : decode cX6_count 108 = .ok (.aload_n 0, 1) := by decide +kernel
theorem dX6_count_109 : decode cX6_count 109 = .ok (.getfield 20, 3) := by decide +kernel
theorem dX6_count_112 : decode cX6_count 112 = .ok (.getfield 235, 3) := by decide +kernel
theorem dX6_count_115 : decode cX6_count 115 = .ok (.ireturn, 1) := by decide +kernel
theorem dX6_count_116 : decode cX6_count 116 = .ok (.iconst (-1), 1) := by decide +kernel
theorem dX6_count_117 : decode cX6_count 117 = .ok (.ireturn, 1) := by decide +kernel
theorem dX6_digest_0 : decode cX6_digest 0 = .ok (.ldc2_w 363, 3) := by decide +kernel
theorem dX6_digest_3 : decode cX6_digest 3 = .ok (.lstore_n 1, 1) := by decide +kernel
theorem dX6_digest_4 : decode cX6_digest 4 = .ok (.iconst 0, 1) := by decide +kernel
theorem dX6_digest_5 : decode cX6_digest 5 = .ok (.istore_n 3, 1) := by decide +kernel
theorem dX6_digest_6 : decode cX6_digest 6 = .ok (.iload_n 3, 1) := by decide +kernel
theorem dX6_digest_7 : decode cX6_digest 7 = .ok (.aload_n 0, 1) := by decide +kernel
theorem dX6_digest_8 : decode cX6_digest 8 = .ok (.getfield 20, 3) := by decide +kernel
theorem dX6_digest_11 : decode cX6_digest 11 = .ok (.getfield 83, 3) := by decide +kernel
theorem dX6_digest_14 : decode cX6_digest 14 = .ok (.if_icmp .ge 47, 3) := by decide +kernel
theorem dX6_digest_61 : decode cX6_digest 61 = .ok (.iconst 0, 1) := by decide +kernel
theorem dX6_digest_62 : decode cX6_digest 62 = .ok (.istore_n 3, 1) := by decide +kernel
theorem dX6_digest_63 : decode cX6_digest 63 = .ok (.iload_n 3, 1) := by decide +kernel
theorem dX6_digest_64 : decode cX6_digest 64 = .ok (.aload_n 0, 1) := by decide +kernel
theorem dX6_digest_65 : decode cX6_digest 65 = .ok (.getfield 20, 3) := by decide +kernel
theorem dX6_digest_68 : decode cX6_digest 68 = .ok (.getfield 367, 3) := by decide +kernel
theorem dX6_digest_71 : decode cX6_digest 71 = .ok (.if_icmp .ge 56, 3) := by decide +kernel
theorem dX6_digest_127 : decode cX6_digest 127 = .ok (.lload_n 1, 1) := by decide +kernel
theorem dX6_digest_128 : decode cX6_digest 128 = .ok (.lreturn, 1) := by decide +kernel
theorem dX6_end_0 : decode cX6_end 0 = .ok (.iload_n 1, 1) := by decide +kernel
theorem dX6_end_1 : decode cX6_end 1 = .ok (.ifCond .lt 11, 3) := by decide +kernel
theorem dX6_end_4 : decode cX6_end 4 = .ok (.iload_n 1, 1) := by decide +kernel
theorem dX6_end_5 : decode cX6_end 5 = .ok (.aload_n 0, 1) := by decide +kernel
theorem dX6_end_6 : decode cX6_end 6 = .ok (.getfield 13, 3) := by decide +kernel
theorem dX6_end_9 : decode cX6_end 9 = .ok (.if_icmp .le 5, 3) := by decide +kernel
theorem dX6_end_12 : decode cX6_end 12 = .ok (.iconst (-1), 1) := by decide +kernel
theorem dX6_end_13 : decode cX6_end 13 = .ok (.ireturn, 1) := by decide +kernel
theorem dX6_end_14 : decode cX6_end 14 = .ok (.aload_n 0, 1) := by decide +kernel
theorem dX6_end_15 : decode cX6_end 15 = .ok (.iload_n 1, 1) := by decide +kernel
theorem dX6_end_16 : decode cX6_end 16 = .ok (.putfield 13, 3) := by decide +kernel
theorem dX6_end_19 : decode cX6_end 19 = .ok (.iload_n 1, 1) := by decide +kernel
theorem dX6_end_20 : decode cX6_end 20 = .ok (.ireturn, 1) := by decide +kernel
theorem dX6_falls_0 : decode cX6_falls 0 = .ok (.aload_n 0, 1) := by decide +kernel
theorem dX6_falls_1 : decode cX6_falls 1 = .ok (.getfield 20, 3) := by decide +kernel
theorem dX6_falls_4 : decode cX6_falls 4 = .ok (.getfield 83, 3) := by decide +kernel
theorem dX6_falls_7 : decode cX6_falls 7 = .ok (.ifCond .ne 5, 3) := by decide +kernel
theorem dX6_falls_10 : decode cX6_falls 10 = .ok (.iconst (-1), 1) := by decide +kernel
theorem dX6_falls_11 : decode cX6_falls 11 = .ok (.ireturn, 1) := by decide +kernel
theorem dX6_sieve_0 : decode cX6_sieve 0 = .ok (.iload_n 1, 1) := by decide +kernel
theorem dX6_sieve_1 : decode cX6_sieve 1 = .ok (.iconst 2, 1) := by decide +kernel
theorem dX6_sieve_2 : decode cX6_sieve 2 = .ok (.invokestatic 109, 3) := by decide +kernel
theorem dX6_sieve_5 : decode cX6_sieve 5 = .ok (.ifCond .ne 5, 3) := by decide +kernel
theorem dX6_sieve_8 : decode cX6_sieve 8 = .ok (.iconst (-1), 1) := by decide +kernel
theorem dX6_sieve_9 : decode cX6_sieve 9 = .ok (.ireturn, 1) := by decide +kernel
theorem dX6_sieve_10 : decode cX6_sieve 10 = .ok (.iconst 0, 1) := by decide +kernel
theorem dX6_sieve_11 : decode cX6_sieve 11 = .ok (.istore_n 2, 1) := by decide +kernel
theorem dX6_sieve_12 : decode cX6_sieve 12 = .ok (.iconst 0, 1) := by decide +kernel
theorem dX6_sieve_13 : decode cX6_sieve 13 = .ok (.istore_n 3, 1) := by decide +kernel
theorem dX6_sieve_14 : decode cX6_sieve 14 = .ok (.iload_n 3, 1) := by decide +kernel
theorem dX6_sieve_15 : decode cX6_sieve 15 = .ok (.aload_n 0, 1) := by decide +kernel
theorem dX6_sieve_16 : decode cX6_sieve 16 = .ok (.getfield 20, 3) := by decide +kernel
theorem dX6_sieve_19 : decode cX6_sieve 19 = .ok (.getfield 83, 3) := by decide +kernel
theorem dX6_sieve_22 : decode cX6_sieve 22 = .ok (.if_icmp .ge 46, 3) := by decide +kernel
theorem dX6_sieve_68 : decode cX6_sieve 68 = .ok (.iload_n 2, 1) := by decide +kernel
theorem dX6_sieve_69 : decode cX6_sieve 69 = .ok (.ireturn, 1) := by decide +kernel
theorem dX6_undo_0 : decode cX6_undo 0 = .ok (.aload_n 0, 1) := by decide +kernel
theorem dX6_undo_1 : decode cX6_undo 1 = .ok (.getfield 66, 3) := by decide +kernel
theorem dX6_undo_4 : decode cX6_undo 4 = .ok (.ifCond .ne 5, 3) := by decide +kernel
theorem dX6_undo_7 : decode cX6_undo 7 = .ok (.iconst (-1), 1) := by decide +kernel
theorem dX6_undo_8 : decode cX6_undo 8 = .ok (.ireturn, 1) := by decide +kernel
set_option maxRecDepth 100000 in
theorem pq229 : Cond.fieldLink RX6 235 "MaskTouch$Field" "tickCount" "I" ∈ pw := pw_mem (i := 229) (by decide +kernel) rfl
set_option maxRecDepth 100000 in
theorem pq651 : Cond.methodLink RX6 109 yX6_isFrom0To ∈ pw := pw_mem (i := 651) (by decide +kernel) rfl
set_option maxRecDepth 100000 in
theorem pq652 : Cond.static yX6_isFrom0To ∈ pw := pw_mem (i := 652) (by decide +kernel) rfl
set_option maxRecDepth 100000 in
theorem pq653 : Cond.code yX6_isFrom0To cX6_isFrom0To 2 (some .boolean) ∈ pw := pw_mem (i := 653) (by rfl) rfl
set_option maxRecDepth 100000 in
theorem pq1099 : Cond.constantLong RX6 363 (17) ∈ pw := pw_mem (i := 1099) (by decide +kernel) rfl
set_option maxRecDepth 100000 in
theorem pq1105 : Cond.methodLink RX6 370 yX1_dotsOfAll ∈ pw := pw_mem (i := 1105) (by decide +kernel) rfl
set_option maxRecDepth 100000 in
theorem pq1106 : Cond.instanceMethod yX1_dotsOfAll ∈ pw := pw_mem (i := 1106) (by decide +kernel) rfl
set_option maxRecDepth 100000 in
theorem pq1107 : Cond.selects RX1 yX1_dotsOfAll yX1_dotsOfAll ∈ pw := pw_mem (i := 1107) (by decide +kernel) rfl
set_option maxRecDepth 100000 in
theorem pq1108 : Cond.code yX1_dotsOfAll cX1_dotsOfAll 3 (some .int) ∈ pw := pw_mem (i := 1108) (by rfl) rfl
set_option maxHeartbeats 4000000 in
set_option maxRecDepth 100000 in
theorem c_X6_falls (l : Launch) (dC : Nat → ClassId) (dI : Nat → Nat → Nat) (h0 tp nw dr rd sc sk fl ps sh nm nb : Nat) (sz : Nat) : Met l yX6_falls (.code yX6_falls cX6_falls 6 (some .int) :: pw) ({ frames := 0, cells := 0, slots := 0, locals := 0 }) (pc (dC, dI) [.ref h0] sz [(h0, .inr (6, [.ref tp, .int 0, .ref nw, .ref dr, .ref rd, .ref sc, .ref sk, .ref fl, .ref ps, .int 0, .int 0, .ref sh])), (nw, .inr (1, [.ref nm, .ref nb, .int 0, .int 0, .int 0]))] []) (va_Qi (fun (r : Int32) (_ : Unit) => r = (-1)) (fun _ _ => True) (fun _ => False)) 0 0 (fun _ => False) := by
  refine Met.ofW (cc := cX6_falls) (maxL := 6) (ret := (some .int)) (by decide +kernel) rfl ?_
  intro p e s m args below meth c s₁ B hml hv
  obtain ⟨rfl, hsz, hP, hK, hD0, hN⟩ := hv
  have hx := B.exec
  have hb := B.bytes
  have hr := B.returns
  have hts := fun w (h : w ∈ pw) => atoms_spec (ws := Cond.code yX6_falls cX6_falls 6 (some .int) :: pw) B.pre w (List.mem_cons_of_mem _ h)
  have hown : s.vm.findClass RX6 = some m.cls := findClass_of_methodNamed B.named
  have hlocks := B.notSynchronized
  subst hsz
  have hD := hD0
  obtain ⟨H, hHe⟩ : ∃ H : Heap, H = s.heap := ⟨_, rfl⟩
  have hS : va_S (fun _ => False) s.heap H [] := by rw [hHe]; exact va_S.rf
  rw [← hHe] at hP
  have hl := lv_entry ([.ref h0]) (n := 6) (Nat.le_of_ble_eq_true rfl)
  rw [lg_entry_eq]
  generalize (lg_sl ([.ref h0]) ++ List.replicate (6 - (lg_sl ([.ref h0])).length) Slot.unset).toArray = ls at hl ⊢
  have hl : lv_has ls 6 [(0, .ref h0)] := hl
  rw [← hHe]
  refine lv_aload_n hx hb dX6_falls_0 rfl (lv_at hl 0 rfl) ?_
  refine va_get (D := (dC, dI)) (ci := 6) (v := .ref nw) (C := RX6) (T := TX6) (N := 12) hx hb hts inX6 hown hK hP 0 rfl rfl 2 (by decide) (hts _ pq351) (fun _ h9 => h9) rfl dX6_falls_1 ?_
  refine va_get (D := (dC, dI)) (ci := 1) (v := .int 0) (C := RX1) (T := TX1) (N := 5) hx hb hts inX1 hown hK hP 1 rfl rfl 3 (by decide) (hts _ pq226) (fun _ h9 => h9) rfl dX6_falls_4 ?_
  refine lv_if_ne (tgt := 12) hx hb dX6_falls_7 (by decide) (fun c1 => absurd (by decide +kernel) c1) (fun c1 => ?_)
  refine lv_iconst (v := (-1)) hx hb dX6_falls_10 (by decide +kernel) ?_
  exact W.iret (v := (-1)) hx hb hr (fun t ht hW => ⟨⟨(-1), (), rfl, rfl, trivial⟩, hS.F ht⟩) hS.2.2 dX6_falls_11

set_option maxHeartbeats 4000000 in
set_option maxRecDepth 100000 in
theorem c_X6_undo (l : Launch) (dC : Nat → ClassId) (dI : Nat → Nat → Nat) (h0 tp nw dr rd sc sk fl ps sh nm nb : Nat) (sz : Nat) : Met l yX6_undo (.code yX6_undo cX6_undo 2 (some .int) :: pw) ({ frames := 0, cells := 0, slots := 0, locals := 0 }) (pc (dC, dI) [.ref h0] sz [(h0, .inr (6, [.ref tp, .int 0, .ref nw, .ref dr, .ref rd, .ref sc, .ref sk, .ref fl, .ref ps, .int 0, .int 0, .ref sh])), (nw, .inr (1, [.ref nm, .ref nb, .int 0, .int 0, .int 0]))] []) (va_Qi (fun (r : Int32) (_ : Unit) => r = (-1)) (fun _ _ => True) (fun _ => False)) 0 0 (fun _ => False) := by
  refine Met.ofW (cc := cX6_undo) (maxL := 2) (ret := (some .int)) (by decide +kernel) rfl ?_
  intro p e s m args below meth c s₁ B hml hv
  obtain ⟨rfl, hsz, hP, hK, hD0, hN⟩ := hv
  have hx := B.exec
  have hb := B.bytes
  have hr := B.returns
  have hts := fun w (h : w ∈ pw) => atoms_spec (ws := Cond.code yX6_undo cX6_undo 2 (some .int) :: pw) B.pre w (List.mem_cons_of_mem _ h)
  have hown : s.vm.findClass RX6 = some m.cls := findClass_of_methodNamed B.named
  have hlocks := B.notSynchronized
  subst hsz
  have hD := hD0
  obtain ⟨H, hHe⟩ : ∃ H : Heap, H = s.heap := ⟨_, rfl⟩
  have hS : va_S (fun _ => False) s.heap H [] := by rw [hHe]; exact va_S.rf
  rw [← hHe] at hP
  have hl := lv_entry ([.ref h0]) (n := 2) (Nat.le_of_ble_eq_true rfl)
  rw [lg_entry_eq]
  generalize (lg_sl ([.ref h0]) ++ List.replicate (2 - (lg_sl ([.ref h0])).length) Slot.unset).toArray = ls at hl ⊢
  have hl : lv_has ls 2 [(0, .ref h0)] := hl
  rw [← hHe]
  refine lv_aload_n hx hb dX6_undo_0 rfl (lv_at hl 0 rfl) ?_
  refine va_get (D := (dC, dI)) (ci := 6) (v := .int 0) (C := RX6) (T := TX6) (N := 12) hx hb hts inX6 hown hK hP 0 rfl rfl 10 (by decide) (hts _ pq359) (fun _ h9 => h9) rfl dX6_undo_1 ?_
  refine lv_if_ne (tgt := 9) hx hb dX6_undo_4 (by decide) (fun c1 => absurd (by decide +kernel) c1) (fun c1 => ?_)
  refine lv_iconst (v := (-1)) hx hb dX6_undo_7 (by decide +kernel) ?_
  exact W.iret (v := (-1)) hx hb hr (fun t ht hW => ⟨⟨(-1), (), rfl, rfl, trivial⟩, hS.F ht⟩) hS.2.2 dX6_undo_8

set_option maxHeartbeats 4000000 in
set_option maxRecDepth 100000 in
theorem c_X6_at (l : Launch) (dC : Nat → ClassId) (dI : Nat → Nat → Nat) (h0 tp nw dr rd sc sk fl ps sh nm nb : Nat) (sz : Nat) (p0 : Int32) (p1 : Int32) : Met l yX6_at (.code yX6_at cX6_at 5 (some .int) :: pw) ({ frames := 0, cells := 0, slots := 0, locals := 0 }) (pc (dC, dI) [.ref h0, .int p0, .int p1] sz [(h0, .inr (6, [.ref tp, .int 0, .ref nw, .ref dr, .ref rd, .ref sc, .ref sk, .ref fl, .ref ps, .int 0, .int 0, .ref sh])), (nw, .inr (1, [.ref nm, .ref nb, .int 0, .int 0, .int 0]))] []) (va_Qi (fun (r : Int32) (_ : Unit) => r = 0) (fun _ _ => True) (fun _ => False)) 0 0 (fun _ => False) := by
  refine Met.ofW (cc := cX6_at) (maxL := 5) (ret := (some .int)) (by decide +kernel) rfl ?_
  intro p e s m args below meth c s₁ B hml hv
  obtain ⟨rfl, hsz, hP, hK, hD0, hN⟩ := hv
  have hx := B.exec
  have hb := B.bytes
  have hr := B.returns
  have hts := fun w (h : w ∈ pw) => atoms_spec (ws := Cond.code yX6_at cX6_at 5 (some .int) :: pw) B.pre w (List.mem_cons_of_mem _ h)
  have hown : s.vm.findClass RX6 = some m.cls := findClass_of_methodNamed B.named
  have hlocks := B.notSynchronized
  subst hsz
  have hD := hD0
  obtain ⟨H, hHe⟩ : ∃ H : Heap, H = s.heap := ⟨_, rfl⟩
  have hS : va_S (fun _ => False) s.heap H [] := by rw [hHe]; exact va_S.rf
  rw [← hHe] at hP
  have hl := lv_entry ([.ref h0, .int p0, .int p1]) (n := 5) (Nat.le_of_ble_eq_true rfl)
  rw [lg_entry_eq]
  generalize (lg_sl ([.ref h0, .int p0, .int p1]) ++ List.replicate (5 - (lg_sl ([.ref h0, .int p0, .int p1])).length) Slot.unset).toArray = ls at hl ⊢
  have hl : lv_has ls 5 [(0, .ref h0), (1, .int p0), (2, .int p1)] := hl
  rw [← hHe]
  refine lv_iconst (v := 0) hx hb dX6_at_0 (by decide +kernel) ?_
  refine lv_istore_n (lv' := [(3, .int 0), (0, .ref h0), (1, .int p0), (2, .int p1)]) hx hb dX6_at_1 rfl hl (by decide) rfl (fun ls hl => ?_)
  refine lv_iconst (v := 0) hx hb dX6_at_2 (by decide +kernel) ?_
  refine lv_istore (lv' := [(4, .int 0), (3, .int 0), (0, .ref h0), (1, .int p0), (2, .int p1)]) hx hb dX6_at_3 hl (by decide) rfl (fun ls hl => ?_)
  refine lv_iload hx hb dX6_at_5 (lv_at hl 0 rfl) ?_
  refine lv_aload_n hx hb dX6_at_7 rfl (lv_at hl 2 rfl) ?_
  refine va_get (D := (dC, dI)) (ci := 6) (v := .ref nw) (C := RX6) (T := TX6) (N := 12) hx hb hts inX6 hown hK hP 0 rfl rfl 2 (by decide) (hts _ pq351) (fun _ h9 => h9) rfl dX6_at_8 ?_
  refine va_get (D := (dC, dI)) (ci := 1) (v := .int 0) (C := RX1) (T := TX1) (N := 5) hx hb hts inX1 hown hK hP 1 rfl rfl 3 (by decide) (hts _ pq226) (fun _ h9 => h9) rfl dX6_at_11 ?_
  refine lv_icmp_ge (tgt := 44) hx hb dX6_at_14 (by decide) (fun c1 => ?_) (fun c1 => absurd (by decide +kernel) c1)
  refine lv_iload_n hx hb dX6_at_44 rfl (lv_at hl 1 rfl) ?_
  exact W.iret (v := 0) hx hb hr (fun t ht hW => ⟨⟨0, (), rfl, rfl, trivial⟩, hS.F ht⟩) hS.2.2 dX6_at_45

set_option maxHeartbeats 4000000 in
set_option maxRecDepth 100000 in
theorem c_X6_digest (l : Launch) (dC : Nat → ClassId) (dI : Nat → Nat → Nat) (h0 tp nw dr rd sc sk fl ps sh nm nb : Nat) (sz : Nat) : Met l yX6_digest (.code yX6_digest cX6_digest 6 (some .long) :: pw) ({ frames := 0, cells := 0, slots := 0, locals := 0 }) (pc (dC, dI) [.ref h0] sz [(h0, .inr (6, [.ref tp, .int 0, .ref nw, .ref dr, .ref rd, .ref sc, .ref sk, .ref fl, .ref ps, .int 0, .int 0, .ref sh])), (nw, .inr (1, [.ref nm, .ref nb, .int 0, .int 0, .int 0]))] []) (va_Ql (fun (r : Int64) (_ : Unit) => r = 17) (fun _ _ => True) (fun _ => False)) 0 0 (fun _ => False) := by
  refine Met.ofW (cc := cX6_digest) (maxL := 6) (ret := (some .long)) (by decide +kernel) rfl ?_
  intro p e s m args below meth c s₁ B hml hv
  obtain ⟨rfl, hsz, hP, hK, hD0, hN⟩ := hv
  have hx := B.exec
  have hb := B.bytes
  have hr := B.returns
  have hts := fun w (h : w ∈ pw) => atoms_spec (ws := Cond.code yX6_digest cX6_digest 6 (some .long) :: pw) B.pre w (List.mem_cons_of_mem _ h)
  have hown : s.vm.findClass RX6 = some m.cls := findClass_of_methodNamed B.named
  have hlocks := B.notSynchronized
  subst hsz
  have hD := hD0
  obtain ⟨H, hHe⟩ : ∃ H : Heap, H = s.heap := ⟨_, rfl⟩
  have hS : va_S (fun _ => False) s.heap H [] := by rw [hHe]; exact va_S.rf
  rw [← hHe] at hP
  have hl := lv_entry ([.ref h0]) (n := 6) (Nat.le_of_ble_eq_true rfl)
  rw [lg_entry_eq]
  generalize (lg_sl ([.ref h0]) ++ List.replicate (6 - (lg_sl ([.ref h0])).length) Slot.unset).toArray = ls at hl ⊢
  have hl : lv_has ls 6 [(0, .ref h0)] := hl
  rw [← hHe]
  refine lv_ldc2 hx hb hown (hts _ pq1099) dX6_digest_0 ?_
  refine lv_lstore_n (lv' := [(1, .long 17), (0, .ref h0)]) hx hb dX6_digest_3 rfl hl (by decide) rfl (fun ls hl => ?_)
  refine lv_iconst (v := 0) hx hb dX6_digest_4 (by decide +kernel) ?_
  refine lv_istore_n (lv' := [(3, .int 0), (1, .long 17), (0, .ref h0)]) hx hb dX6_digest_5 rfl hl (by decide) rfl (fun ls hl => ?_)
  refine lv_iload_n hx hb dX6_digest_6 rfl (lv_at hl 0 rfl) ?_
  refine lv_aload_n hx hb dX6_digest_7 rfl (lv_at hl 2 rfl) ?_
  refine va_get (D := (dC, dI)) (ci := 6) (v := .ref nw) (C := RX6) (T := TX6) (N := 12) hx hb hts inX6 hown hK hP 0 rfl rfl 2 (by decide) (hts _ pq351) (fun _ h9 => h9) rfl dX6_digest_8 ?_
  refine va_get (D := (dC, dI)) (ci := 1) (v := .int 0) (C := RX1) (T := TX1) (N := 5) hx hb hts inX1 hown hK hP 1 rfl rfl 3 (by decide) (hts _ pq226) (fun _ h9 => h9) rfl dX6_digest_11 ?_
  refine lv_icmp_ge (tgt := 61) hx hb dX6_digest_14 (by decide) (fun c1 => ?_) (fun c1 => absurd (by decide +kernel) c1)
  refine lv_iconst (v := 0) hx hb dX6_digest_61 (by decide +kernel) ?_
  refine lv_istore_n (lv' := [(3, .int 0), (1, .long 17), (0, .ref h0)]) hx hb dX6_digest_62 rfl hl (by decide) rfl (fun ls hl => ?_)
  refine lv_iload_n hx hb dX6_digest_63 rfl (lv_at hl 0 rfl) ?_
  refine lv_aload_n hx hb dX6_digest_64 rfl (lv_at hl 2 rfl) ?_
  refine va_get (D := (dC, dI)) (ci := 6) (v := .ref nw) (C := RX6) (T := TX6) (N := 12) hx hb hts inX6 hown hK hP 0 rfl rfl 2 (by decide) (hts _ pq351) (fun _ h9 => h9) rfl dX6_digest_65 ?_
  refine va_get (D := (dC, dI)) (ci := 1) (v := .int 0) (C := RX1) (T := TX1) (N := 5) hx hb hts inX1 hown hK hP 1 rfl rfl 2 (by decide) (hts _ pq223) (fun _ h9 => h9) rfl dX6_digest_68 ?_
  refine lv_icmp_ge (tgt := 127) hx hb dX6_digest_71 (by decide) (fun c2 => ?_) (fun c2 => absurd (by decide +kernel) c2)
  refine lv_lload_n hx hb dX6_digest_127 rfl (lv_at hl 1 rfl) ?_
  exact W.lret (v := 17) hx hb hr (fun t ht hW => ⟨⟨17, (), rfl, rfl, trivial⟩, hS.F ht⟩) hS.2.2 dX6_digest_128

theorem rng_t {P : Prop} [Decidable P] {r a b : Int32} (h : r = if P then 0 else 1) (c : r = 0) : a = if P then a else b := by
  by_cases hp : P
  · rw [if_pos hp]
  · rw [if_neg hp] at h; rw [h] at c; exact absurd c (by decide +kernel)
theorem rng_n {P : Prop} [Decidable P] {r : Int32} (h : r = if P then 0 else 1) (c : ¬ r = 0) : ¬ P := fun hp => c (by rw [h, if_pos hp])
theorem rng_f {P : Prop} [Decidable P] {r a b : Int32} (h : r = if P then 0 else 1) (c : ¬ r = 0) : b = if P then a else b := (if_neg (rng_n h c)).symm
theorem in2 {x : Int32} (h : ¬ (x < 0 ∨ 1 < x)) : vp_in x 2 := by
  have h1 : ¬ x < 0 := fun q => h (Or.inl q)
  have h2 : ¬ 1 < x := fun q => h (Or.inr q)
  rcases nI_of2 (M := 1) (n := 1) (by decide +kernel) h1 (Int32.not_lt.mp h2) with ⟨j, hj, rfl⟩
  exact vp_in_nI (by omega) (by decide)

set_option maxHeartbeats 4000000 in
set_option maxRecDepth 100000 in
theorem c_X6_sieve (l : Launch) (dC : Nat → ClassId) (dI : Nat → Nat → Nat) (h0 tp nw dr rd sc sk fl ps sh nm nb : Nat) (sz : Nat) (p0 : Int32) : Met l yX6_sieve (.code yX6_sieve cX6_sieve 5 (some .int) :: pw) ({ frames := 1, cells := 0, slots := 0, locals := 21 }) (pc (dC, dI) [.ref h0, .int p0] sz [(h0, .inr (6, [.ref tp, .int 0, .ref nw, .ref dr, .ref rd, .ref sc, .ref sk, .ref fl, .ref ps, .int 0, .int 0, .ref sh])), (nw, .inr (1, [.ref nm, .ref nb, .int 0, .int 0, .int 0]))] []) (va_Qi (fun (r : Int32) (_ : Unit) => r = if p0 < 0 ∨ 2 < p0 then (-1) else 0) (fun _ _ => True) (fun _ => False)) 0 0 (fun _ => False) := by
  refine Met.ofW (cc := cX6_sieve) (maxL := 5) (ret := (some .int)) (by decide +kernel) rfl ?_
  intro p e s m args below meth c s₁ B hml hv
  obtain ⟨rfl, hsz, hP, hK, hD0, hN⟩ := hv
  have hx := B.exec
  have hb := B.bytes
  have hr := B.returns
  have hts := fun w (h : w ∈ pw) => atoms_spec (ws := Cond.code yX6_sieve cX6_sieve 5 (some .int) :: pw) B.pre w (List.mem_cons_of_mem _ h)
  have hown : s.vm.findClass RX6 = some m.cls := findClass_of_methodNamed B.named
  have hlocks := B.notSynchronized
  subst hsz
  have hD := hD0
  obtain ⟨H, hHe⟩ : ∃ H : Heap, H = s.heap := ⟨_, rfl⟩
  have hS : va_S (fun _ => False) s.heap H [] := by rw [hHe]; exact va_S.rf
  rw [← hHe] at hP
  have hl := lv_entry ([.ref h0, .int p0]) (n := 5) (Nat.le_of_ble_eq_true rfl)
  rw [lg_entry_eq]
  generalize (lg_sl ([.ref h0, .int p0]) ++ List.replicate (5 - (lg_sl ([.ref h0, .int p0])).length) Slot.unset).toArray = ls at hl ⊢
  have hl : lv_has ls 5 [(0, .ref h0), (1, .int p0)] := hl
  rw [← hHe]
  refine lv_iload_n hx hb dX6_sieve_0 rfl (lv_at hl 1 rfl) ?_
  refine lv_iconst (v := 2) hx hb dX6_sieve_1 (by decide +kernel) ?_
  have hPc := hP.sub (ws' := []) [] rfl
  have hDc := hD.sub (ws' := []) [] (by decide) rfl
  have hKc := hK.sub (tys' := []) [] rfl
  refine ro_i (va_runS (As := [.int p0, .int 2]) (rest := []) ⟨hx, hb, hml, hown, hts⟩ (c_X6_isFrom0To l dC dI  H.size p0 2 ) (va_cwS 2 hts (gS pq651 pq652 pq74 pq653) rfl rfl rfl (by decide +kernel) ⟨(Nat.le_of_ble_eq_true rfl), (Nat.le_of_ble_eq_true rfl)⟩) (pc_S hPc hDc hKc hN) rfl rfl hl.1 rfl (lv_room (Nat.le_of_ble_eq_true rfl)) dX6_sieve_2 ⟨(Nat.le_of_ble_eq_true rfl), (Nat.le_of_ble_eq_true rfl)⟩) hS hP (fun r1 H locs hr1 hP hS => ?_)
  refine lv_if_ne (tgt := 10) hx hb dX6_sieve_5 (by decide) (fun c2 => ?_) (fun c2 => ?_)
  · refine lv_iconst (v := 0) hx hb dX6_sieve_10 (by decide +kernel) ?_
    refine lv_istore_n (lv' := [(2, .int 0), (0, .ref h0), (1, .int p0)]) hx hb dX6_sieve_11 rfl hl (by decide) rfl (fun ls hl => ?_)
    refine lv_iconst (v := 0) hx hb dX6_sieve_12 (by decide +kernel) ?_
    refine lv_istore_n (lv' := [(3, .int 0), (2, .int 0), (0, .ref h0), (1, .int p0)]) hx hb dX6_sieve_13 rfl hl (by decide) rfl (fun ls hl => ?_)
    refine lv_iload_n hx hb dX6_sieve_14 rfl (lv_at hl 0 rfl) ?_
    refine lv_aload_n hx hb dX6_sieve_15 rfl (lv_at hl 2 rfl) ?_
    refine va_get (D := (dC, dI)) (ci := 6) (v := .ref nw) (C := RX6) (T := TX6) (N := 12) hx hb hts inX6 hown hK hP 0 rfl rfl 2 (by decide) (hts _ pq351) (fun _ h9 => h9) rfl dX6_sieve_16 ?_
    refine va_get (D := (dC, dI)) (ci := 1) (v := .int 0) (C := RX1) (T := TX1) (N := 5) hx hb hts inX1 hown hK hP 1 rfl rfl 3 (by decide) (hts _ pq226) (fun _ h9 => h9) rfl dX6_sieve_19 ?_
    refine lv_icmp_ge (tgt := 68) hx hb dX6_sieve_22 (by decide) (fun c3 => ?_) (fun c3 => absurd (by decide +kernel) c3)
    refine lv_iload_n hx hb dX6_sieve_68 rfl (lv_at hl 1 rfl) ?_
    exact W.iret (v := 0) hx hb hr (fun t ht hW => ⟨⟨0, (), rfl, (rng_f hr1 c2), trivial⟩, hS.F ht⟩) hS.2.2 dX6_sieve_69
  · refine lv_iconst (v := (-1)) hx hb dX6_sieve_8 (by decide +kernel) ?_
    exact W.iret (v := (-1)) hx hb hr (fun t ht hW => ⟨⟨(-1), (), rfl, (rng_t hr1 c2), trivial⟩, hS.F ht⟩) hS.2.2 dX6_sieve_9

set_option maxHeartbeats 4000000 in
set_option maxRecDepth 100000 in
theorem c_X6_contact (l : Launch) (dC : Nat → ClassId) (dI : Nat → Nat → Nat) (h0 tp nw dr rd sc sk fl ps sh nm nb : Nat) (sz : Nat) (p0 : Int32) : Met l yX6_contact (.code yX6_contact cX6_contact 5 (some .int) :: pw) ({ frames := 0, cells := 0, slots := 0, locals := 0 }) (pc (dC, dI) [.ref h0, .int p0] sz [(h0, .inr (6, [.ref tp, .int 0, .ref nw, .ref dr, .ref rd, .ref sc, .ref sk, .ref fl, .ref ps, .int 0, .int 0, .ref sh])), (nw, .inr (1, [.ref nm, .ref nb, .int 0, .int 0, .int 0]))] []) (va_Qi (fun (r : Int32) (_ : Unit) => r = if p0 < (-1) then (-1) else if p0 = (-1) then 0 else (-2)) (fun _ _ => True) (fun _ => False)) 0 0 (fun _ => False) := by
  refine Met.ofW (cc := cX6_contact) (maxL := 5) (ret := (some .int)) (by decide +kernel) rfl ?_
  intro p e s m args below meth c s₁ B hml hv
  obtain ⟨rfl, hsz, hP, hK, hD0, hN⟩ := hv
  have hx := B.exec
  have hb := B.bytes
  have hr := B.returns
  have hts := fun w (h : w ∈ pw) => atoms_spec (ws := Cond.code yX6_contact cX6_contact 5 (some .int) :: pw) B.pre w (List.mem_cons_of_mem _ h)
  have hown : s.vm.findClass RX6 = some m.cls := findClass_of_methodNamed B.named
  have hlocks := B.notSynchronized
  subst hsz
  have hD := hD0
  obtain ⟨H, hHe⟩ : ∃ H : Heap, H = s.heap := ⟨_, rfl⟩
  have hS : va_S (fun _ => False) s.heap H [] := by rw [hHe]; exact va_S.rf
  rw [← hHe] at hP
  have hl := lv_entry ([.ref h0, .int p0]) (n := 5) (Nat.le_of_ble_eq_true rfl)
  rw [lg_entry_eq]
  generalize (lg_sl ([.ref h0, .int p0]) ++ List.replicate (5 - (lg_sl ([.ref h0, .int p0])).length) Slot.unset).toArray = ls at hl ⊢
  have hl : lv_has ls 5 [(0, .ref h0), (1, .int p0)] := hl
  rw [← hHe]
  refine lv_iload_n hx hb dX6_contact_0 rfl (lv_at hl 1 rfl) ?_
  refine lv_iconst (v := (-1)) hx hb dX6_contact_1 (by decide +kernel) ?_
  refine lv_icmp_ge (tgt := 7) hx hb dX6_contact_2 (by decide) (fun c1 => ?_) (fun c1 => ?_)
  · refine lv_iconst (v := 0) hx hb dX6_contact_7 (by decide +kernel) ?_
    refine lv_istore_n (lv' := [(2, .int 0), (0, .ref h0), (1, .int p0)]) hx hb dX6_contact_8 rfl hl (by decide) rfl (fun ls hl => ?_)
    refine lv_iconst (v := 0) hx hb dX6_contact_9 (by decide +kernel) ?_
    refine lv_istore_n (lv' := [(3, .int 0), (2, .int 0), (0, .ref h0), (1, .int p0)]) hx hb dX6_contact_10 rfl hl (by decide) rfl (fun ls hl => ?_)
    refine lv_iload_n hx hb dX6_contact_11 rfl (lv_at hl 0 rfl) ?_
    refine lv_aload_n hx hb dX6_contact_12 rfl (lv_at hl 2 rfl) ?_
    refine va_get (D := (dC, dI)) (ci := 6) (v := .ref nw) (C := RX6) (T := TX6) (N := 12) hx hb hts inX6 hown hK hP 0 rfl rfl 2 (by decide) (hts _ pq351) (fun _ h9 => h9) rfl dX6_contact_13 ?_
    refine va_get (D := (dC, dI)) (ci := 1) (v := .int 0) (C := RX1) (T := TX1) (N := 5) hx hb hts inX1 hown hK hP 1 rfl rfl 3 (by decide) (hts _ pq226) (fun _ h9 => h9) rfl dX6_contact_16 ?_
    refine lv_icmp_ge (tgt := 82) hx hb dX6_contact_19 (by decide) (fun c2 => ?_) (fun c2 => absurd (by decide +kernel) c2)
    refine lv_iload_n hx hb dX6_contact_82 rfl (lv_at hl 3 rfl) ?_
    refine lv_iconst (v := (-1)) hx hb dX6_contact_83 (by decide +kernel) ?_
    refine lv_icmp_ne (tgt := 91) hx hb dX6_contact_84 (by decide) (fun c3 => ?_) (fun c3 => ?_)
    · refine lv_bipush (v := (-2)) hx hb dX6_contact_91 (by decide +kernel) ?_
      exact W.iret (v := (-2)) hx hb hr (fun t ht hW => ⟨⟨(-2), (), rfl, ((if_neg (Int32.not_lt.mpr c1)).trans (if_neg c3)).symm, trivial⟩, hS.F ht⟩) hS.2.2 dX6_contact_93
    · refine lv_iload_n hx hb dX6_contact_87 rfl (lv_at hl 1 rfl) ?_
      refine lv_goto (tgt := 93) hx hb dX6_contact_88 (by decide) ?_
      exact W.iret (v := 0) hx hb hr (fun t ht hW => ⟨⟨0, (), rfl, ((if_neg (Int32.not_lt.mpr c1)).trans (if_pos c3)).symm, trivial⟩, hS.F ht⟩) hS.2.2 dX6_contact_93
  · refine lv_iconst (v := (-1)) hx hb dX6_contact_5 (by decide +kernel) ?_
    exact W.iret (v := (-1)) hx hb hr (fun t ht hW => ⟨⟨(-1), (), rfl, (if_pos (Int32.not_le.mp c1)).symm, trivial⟩, hS.F ht⟩) hS.2.2 dX6_contact_6

set_option maxHeartbeats 4000000 in
set_option maxRecDepth 100000 in
theorem c_X6_end (l : Launch) (dC : Nat → ClassId) (dI : Nat → Nat → Nat) (h0 tp nw dr rd sc sk fl ps sh : Nat) (sz : Nat) (p0 : Int32) : Met l yX6_end (.code yX6_end cX6_end 2 (some .int) :: pw) ({ frames := 0, cells := 0, slots := 0, locals := 0 }) (pc (dC, dI) [.ref h0, .int p0] sz [(h0, .inr (6, [.ref tp, .int 0, .ref nw, .ref dr, .ref rd, .ref sc, .ref sk, .ref fl, .ref ps, .int 0, .int 0, .ref sh]))] []) (va_Qi (fun (r : Int32) (_ : Unit) => r = if p0 < 0 ∨ 0 < p0 then (-1) else p0) (fun _ _ => True) (va_A [(h0, .inr (6, [.ref tp, .int 0, .ref nw, .ref dr, .ref rd, .ref sc, .ref sk, .ref fl, .ref ps, .int 0, .int 0, .ref sh]))] sz)) 0 0 (va_A [(h0, .inr (6, [.ref tp, .int 0, .ref nw, .ref dr, .ref rd, .ref sc, .ref sk, .ref fl, .ref ps, .int 0, .int 0, .ref sh]))] sz) := by
  refine Met.ofW (cc := cX6_end) (maxL := 2) (ret := (some .int)) (by decide +kernel) rfl ?_
  intro p e s m args below meth c s₁ B hml hv
  obtain ⟨rfl, hsz, hP, hK, hD0, hN⟩ := hv
  have hx := B.exec
  have hb := B.bytes
  have hr := B.returns
  have hts := fun w (h : w ∈ pw) => atoms_spec (ws := Cond.code yX6_end cX6_end 2 (some .int) :: pw) B.pre w (List.mem_cons_of_mem _ h)
  have hown : s.vm.findClass RX6 = some m.cls := findClass_of_methodNamed B.named
  have hlocks := B.notSynchronized
  subst hsz
  have hD := hD0.self (sz := s.heap.size)
  generalize hAe : va_A [(h0, .inr (6, [.ref tp, .int 0, .ref nw, .ref dr, .ref rd, .ref sc, .ref sk, .ref fl, .ref ps, .int 0, .int 0, .ref sh]))] s.heap.size = A at hD ⊢
  have hA : ∀ q : Nat, s.heap.size ≤ q → A q := fun q h => by rw [← hAe]; exact Or.inr h
  obtain ⟨H, hHe⟩ : ∃ H : Heap, H = s.heap := ⟨_, rfl⟩
  have hS : va_S A s.heap H [] := by rw [hHe]; exact va_S.rf
  rw [← hHe] at hP
  have hl := lv_entry ([.ref h0, .int p0]) (n := 2) (Nat.le_of_ble_eq_true rfl)
  rw [lg_entry_eq]
  generalize (lg_sl ([.ref h0, .int p0]) ++ List.replicate (2 - (lg_sl ([.ref h0, .int p0])).length) Slot.unset).toArray = ls at hl ⊢
  have hl : lv_has ls 2 [(0, .ref h0), (1, .int p0)] := hl
  rw [← hHe]
  refine lv_iload_n hx hb dX6_end_0 rfl (lv_at hl 1 rfl) ?_
  refine lv_if_lt (tgt := 12) hx hb dX6_end_1 (by decide) (fun c1 => ?_) (fun c1 => ?_)
  · refine lv_iconst (v := (-1)) hx hb dX6_end_12 (by decide +kernel) ?_
    exact W.iret (v := (-1)) hx hb hr (fun t ht hW => ⟨⟨(-1), (), rfl, (if_pos (Or.inl c1)).symm, trivial⟩, hS.F ht⟩) hS.2.2 dX6_end_13
  · refine lv_iload_n hx hb dX6_end_4 rfl (lv_at hl 1 rfl) ?_
    refine lv_aload_n hx hb dX6_end_5 rfl (lv_at hl 0 rfl) ?_
    refine va_get (D := (dC, dI)) (ci := 6) (v := .int 0) (C := RX6) (T := TX6) (N := 12) hx hb hts inX6 hown hK hP 0 rfl rfl 1 (by decide) (hts _ pq350) (fun _ h9 => h9) rfl dX6_end_6 ?_
    refine lv_icmp_le (tgt := 14) hx hb dX6_end_9 (by decide) (fun c2 => ?_) (fun c2 => ?_)
    · refine lv_aload_n hx hb dX6_end_14 rfl (lv_at hl 0 rfl) ?_
      refine lv_iload_n hx hb dX6_end_15 rfl (lv_at hl 1 rfl) ?_
      refine va_put (D := (dC, dI)) (ci := 6) (v := .int p0) (ty := tyX6 1) (C := RX6) (T := TX6) (N := 12) hx hb hts inX6 tyX6 tyX6_ok nmX6 hown hK hP hD hS 0 rfl rfl 1 (by decide) (hts _ pq350) (fun _ h9 => h9) rfl (by decide +kernel) rfl rfl (Nat.le_of_ble_eq_true rfl) dX6_end_16 (fun H locs hP hD hS => ?_)
      have hP : va_P (dC, dI) vwCl [(h0, .inr (6, [.ref tp, .int p0, .ref nw, .ref dr, .ref rd, .ref sc, .ref sk, .ref fl, .ref ps, .int 0, .int 0, .ref sh]))] H := hP
      have hD : va_D A [(h0, .inr (6, [.ref tp, .int p0, .ref nw, .ref dr, .ref rd, .ref sc, .ref sk, .ref fl, .ref ps, .int 0, .int 0, .ref sh]))] := hD
      refine lv_iload_n hx hb dX6_end_19 rfl (lv_at hl 1 rfl) ?_
      exact W.iret (v := p0) hx hb hr (fun t ht hW => ⟨⟨p0, (), rfl, (if_neg (fun h => h.elim c1 (Int32.not_lt.mpr c2))).symm, trivial⟩, hS.F ht⟩) hS.2.2 dX6_end_20
    · refine lv_iconst (v := (-1)) hx hb dX6_end_12 (by decide +kernel) ?_
      exact W.iret (v := (-1)) hx hb hr (fun t ht hW => ⟨⟨(-1), (), rfl, (if_pos (Or.inr (Int32.not_le.mp c2))).symm, trivial⟩, hS.F ht⟩) hS.2.2 dX6_end_13

set_option maxHeartbeats 4000000 in
set_option maxRecDepth 100000 in
theorem c_X6_back (l : Launch) (dC : Nat → ClassId) (dI : Nat → Nat → Nat) (h0 tp nw dr rd sc sk fl ps sh nm nb : Nat) (kG : ClassId) (sz : Nat) (p0 : Int32) : Met l yX6_back (.code yX6_back cX6_back 3 (some .int) :: pw) ({ frames := 1, cells := 0, slots := 0, locals := 21 }) (pc (dC, dI) [.ref h0, .int p0] sz [(h0, .inr (6, [.ref tp, .int 0, .ref nw, .ref dr, .ref rd, .ref sc, .ref sk, .ref fl, .ref ps, .int 0, .int 0, .ref sh])), (nw, .inr (1, [.ref nm, .ref nb, .int 0, .int 0, .int 0])), (sh, .inl (kG, 2, .inr (.inr (.inr (.inr (fun _ => none))))))] [(kG, .object RX1)]) (va_Qi (fun (r : Int32) (_ : Unit) => r = if p0 < 0 ∨ 1 < p0 then (-1) else (-2)) (fun _ _ => True) (fun _ => False)) 0 0 (fun _ => False) := by
  refine Met.ofW (cc := cX6_back) (maxL := 3) (ret := (some .int)) (by decide +kernel) rfl ?_
  intro p e s m args below meth c s₁ B hml hv
  obtain ⟨rfl, hsz, hP, hK, hD0, hN⟩ := hv
  have hx := B.exec
  have hb := B.bytes
  have hr := B.returns
  have hts := fun w (h : w ∈ pw) => atoms_spec (ws := Cond.code yX6_back cX6_back 3 (some .int) :: pw) B.pre w (List.mem_cons_of_mem _ h)
  have hown : s.vm.findClass RX6 = some m.cls := findClass_of_methodNamed B.named
  have hlocks := B.notSynchronized
  subst hsz
  have hD := hD0
  obtain ⟨H, hHe⟩ : ∃ H : Heap, H = s.heap := ⟨_, rfl⟩
  have hS : va_S (fun _ => False) s.heap H [] := by rw [hHe]; exact va_S.rf
  rw [← hHe] at hP
  have hl := lv_entry ([.ref h0, .int p0]) (n := 3) (Nat.le_of_ble_eq_true rfl)
  rw [lg_entry_eq]
  generalize (lg_sl ([.ref h0, .int p0]) ++ List.replicate (3 - (lg_sl ([.ref h0, .int p0])).length) Slot.unset).toArray = ls at hl ⊢
  have hl : lv_has ls 3 [(0, .ref h0), (1, .int p0)] := hl
  rw [← hHe]
  refine lv_iload_n hx hb dX6_back_0 rfl (lv_at hl 1 rfl) ?_
  refine lv_iconst (v := 1) hx hb dX6_back_1 (by decide +kernel) ?_
  have hPc := hP.sub (ws' := []) [] rfl
  have hDc := hD.sub (ws' := []) [] (by decide) rfl
  have hKc := hK.sub (tys' := []) [] rfl
  refine ro_i (va_runS (As := [.int p0, .int 1]) (rest := []) ⟨hx, hb, hml, hown, hts⟩ (c_X6_isFrom0To l dC dI  H.size p0 1 ) (va_cwS 2 hts (gS pq651 pq652 pq74 pq653) rfl rfl rfl (by decide +kernel) ⟨(Nat.le_of_ble_eq_true rfl), (Nat.le_of_ble_eq_true rfl)⟩) (pc_S hPc hDc hKc hN) rfl rfl hl.1 rfl (lv_room (Nat.le_of_ble_eq_true rfl)) dX6_back_2 ⟨(Nat.le_of_ble_eq_true rfl), (Nat.le_of_ble_eq_true rfl)⟩) hS hP (fun r1 H locs hr1 hP hS => ?_)
  refine lv_if_ne (tgt := 10) hx hb dX6_back_5 (by decide) (fun c2 => ?_) (fun c2 => ?_)
  · refine lv_aload_n hx hb dX6_back_10 rfl (lv_at hl 0 rfl) ?_
    refine va_get (D := (dC, dI)) (ci := 6) (v := .ref sh) (C := RX6) (T := TX6) (N := 12) hx hb hts inX6 hown hK hP 0 rfl rfl 11 (by decide) (hts _ pq360) (fun _ h9 => h9) rfl dX6_back_11 ?_
    refine lv_iload_n hx hb dX6_back_14 rfl (lv_at hl 1 rfl) ?_
    refine va_aldq hx hb hK hP 2 0 rfl rfl (in2 (rng_n hr1 c2)) dX6_back_15 ?_
    refine W.eq (g2 := F0 m 16 ls [.null]) rfl ?_
    refine lv_astore_nN (lv' := [(2, .null), (0, .ref h0), (1, .int p0)]) hx hb dX6_back_16 rfl hl (by decide) rfl (fun ls hl => ?_)
    refine lv_aload_nN hx hb dX6_back_17 rfl (lv_at hl 0 rfl) ?_
    refine lv_ifnonnullN hx hb dX6_back_18 ?_
    refine lv_bipush (v := (-2)) hx hb dX6_back_21 (by decide +kernel) ?_
    exact W.iret (v := (-2)) hx hb hr (fun t ht hW => ⟨⟨(-2), (), rfl, (rng_f hr1 c2), trivial⟩, hS.F ht⟩) hS.2.2 dX6_back_23
  · refine lv_iconst (v := (-1)) hx hb dX6_back_8 (by decide +kernel) ?_
    exact W.iret (v := (-1)) hx hb hr (fun t ht hW => ⟨⟨(-1), (), rfl, (rng_t hr1 c2), trivial⟩, hS.F ht⟩) hS.2.2 dX6_back_9

set_option maxHeartbeats 4000000 in
set_option maxRecDepth 100000 in
theorem c_X1_dotsOfAll (l : Launch) (dC : Nat → ClassId) (dI : Nat → Nat → Nat) (h0 nm nb : Nat) (sz : Nat) : Met l yX1_dotsOfAll (.code yX1_dotsOfAll cX1_dotsOfAll 3 (some .int) :: pw) ({ frames := 0, cells := 0, slots := 0, locals := 0 }) (pc (dC, dI) [.ref h0] sz [(h0, .inr (1, [.ref nm, .ref nb, .int 0, .int 0, .int 0]))] []) (va_Qi (fun (r : Int32) (_ : Unit) => r = 0) (fun _ _ => True) (fun _ => False)) 0 0 (fun _ => False) := by
  refine Met.ofW (cc := cX1_dotsOfAll) (maxL := 3) (ret := (some .int)) (by decide +kernel) rfl ?_
  intro p e s m args below meth c s₁ B hml hv
  obtain ⟨rfl, hsz, hP, hK, hD0, hN⟩ := hv
  have hx := B.exec
  have hb := B.bytes
  have hr := B.returns
  have hts := fun w (h : w ∈ pw) => atoms_spec (ws := Cond.code yX1_dotsOfAll cX1_dotsOfAll 3 (some .int) :: pw) B.pre w (List.mem_cons_of_mem _ h)
  have hown : s.vm.findClass RX1 = some m.cls := findClass_of_methodNamed B.named
  have hlocks := B.notSynchronized
  subst hsz
  have hD := hD0
  obtain ⟨H, hHe⟩ : ∃ H : Heap, H = s.heap := ⟨_, rfl⟩
  have hS : va_S (fun _ => False) s.heap H [] := by rw [hHe]; exact va_S.rf
  rw [← hHe] at hP
  have hl := lv_entry ([.ref h0]) (n := 3) (Nat.le_of_ble_eq_true rfl)
  rw [lg_entry_eq]
  generalize (lg_sl ([.ref h0]) ++ List.replicate (3 - (lg_sl ([.ref h0])).length) Slot.unset).toArray = ls at hl ⊢
  have hl : lv_has ls 3 [(0, .ref h0)] := hl
  rw [← hHe]
  refine lv_iconst (v := 0) hx hb dX1_dotsOfAll_0 (by decide +kernel) ?_
  refine lv_istore_n (lv' := [(1, .int 0), (0, .ref h0)]) hx hb dX1_dotsOfAll_1 rfl hl (by decide) rfl (fun ls hl => ?_)
  refine lv_iconst (v := 0) hx hb dX1_dotsOfAll_2 (by decide +kernel) ?_
  refine lv_istore_n (lv' := [(2, .int 0), (1, .int 0), (0, .ref h0)]) hx hb dX1_dotsOfAll_3 rfl hl (by decide) rfl (fun ls hl => ?_)
  refine lv_iload_n hx hb dX1_dotsOfAll_4 rfl (lv_at hl 0 rfl) ?_
  refine lv_aload_n hx hb dX1_dotsOfAll_5 rfl (lv_at hl 2 rfl) ?_
  refine va_get (D := (dC, dI)) (ci := 1) (v := .int 0) (C := RX1) (T := TX1) (N := 5) hx hb hts inX1 hown hK hP 0 rfl rfl 2 (by decide) (hts _ pq221) (fun _ h9 => h9) rfl dX1_dotsOfAll_6 ?_
  refine lv_icmp_ge (tgt := 30) hx hb dX1_dotsOfAll_9 (by decide) (fun c1 => ?_) (fun c1 => absurd (by decide +kernel) c1)
  refine lv_iload_n hx hb dX1_dotsOfAll_30 rfl (lv_at hl 1 rfl) ?_
  exact W.iret (v := 0) hx hb hr (fun t ht hW => ⟨⟨0, (), rfl, rfl, trivial⟩, hS.F ht⟩) hS.2.2 dX1_dotsOfAll_31

set_option maxHeartbeats 4000000 in
set_option maxRecDepth 100000 in
theorem c_X6_count (l : Launch) (dC : Nat → ClassId) (dI : Nat → Nat → Nat) (h0 tp nw dr rd sc sk fl ps sh nm nb : Nat) (kG : ClassId) (sz : Nat) (p0 : Int32) : Met l yX6_count (.code yX6_count cX6_count 2 (some .int) :: pw) ({ frames := 1, cells := 0, slots := 0, locals := 22 }) (pc (dC, dI) [.ref h0, .int p0] sz [(h0, .inr (6, [.ref tp, .int 0, .ref nw, .ref dr, .ref rd, .ref sc, .ref sk, .ref fl, .ref ps, .int 0, .int 0, .ref sh])), (nw, .inr (1, [.ref nm, .ref nb, .int 0, .int 0, .int 0])), (sh, .inl (kG, 2, .inr (.inr (.inr (.inr (fun _ => none))))))] [(kG, .object RX1)]) (va_Qi (fun (r : Int32) (_ : Unit) => r = if p0.toInt < 0 ∨ 6 < p0.toInt then (-1) else 0) (fun _ _ => True) (fun _ => False)) 0 0 (fun _ => False) := by
  refine Met.ofW (cc := cX6_count) (maxL := 2) (ret := (some .int)) (by decide +kernel) rfl ?_
  intro p e s m args below meth c s₁ B hml hv
  obtain ⟨rfl, hsz, hP, hK, hD0, hN⟩ := hv
  have hx := B.exec
  have hb := B.bytes
  have hr := B.returns
  have hts := fun w (h : w ∈ pw) => atoms_spec (ws := Cond.code yX6_count cX6_count 2 (some .int) :: pw) B.pre w (List.mem_cons_of_mem _ h)
  have hown : s.vm.findClass RX6 = some m.cls := findClass_of_methodNamed B.named
  have hlocks := B.notSynchronized
  subst hsz
  have hD := hD0
  obtain ⟨H, hHe⟩ : ∃ H : Heap, H = s.heap := ⟨_, rfl⟩
  have hS : va_S (fun _ => False) s.heap H [] := by rw [hHe]; exact va_S.rf
  rw [← hHe] at hP
  have hl := lv_entry ([.ref h0, .int p0]) (n := 2) (Nat.le_of_ble_eq_true rfl)
  rw [lg_entry_eq]
  generalize (lg_sl ([.ref h0, .int p0]) ++ List.replicate (2 - (lg_sl ([.ref h0, .int p0])).length) Slot.unset).toArray = ls at hl ⊢
  have hl : lv_has ls 2 [(0, .ref h0), (1, .int p0)] := hl
  rw [← hHe]
  refine lv_iload_n hx hb dX6_count_0 rfl (lv_at hl 1 rfl) ?_
  rcases sw7 p0 with rfl | rfl | rfl | rfl | rfl | rfl | rfl | h1
  · refine lv_tableIn (off := 43) (tgt := 44) hx hb dX6_count_1 (by decide +kernel) (by decide +kernel) (by decide +kernel) (by decide) ?_
    refine lv_aload_n hx hb dX6_count_44 rfl (lv_at hl 0 rfl) ?_
    refine va_get (D := (dC, dI)) (ci := 6) (v := .ref nw) (C := RX6) (T := TX6) (N := 12) hx hb hts inX6 hown hK hP 0 rfl rfl 2 (by decide) (hts _ pq351) (fun _ h9 => h9) rfl dX6_count_45 ?_
    refine va_get (D := (dC, dI)) (ci := 1) (v := .int 0) (C := RX1) (T := TX1) (N := 5) hx hb hts inX1 hown hK hP 1 rfl rfl 2 (by decide) (hts _ pq223) (fun _ h9 => h9) rfl dX6_count_48 ?_
    exact W.iret (v := 0) hx hb hr (fun t ht hW => ⟨⟨0, (), rfl, by decide +kernel, trivial⟩, hS.F ht⟩) hS.2.2 dX6_count_51
  · refine lv_tableIn (off := 51) (tgt := 52) hx hb dX6_count_1 (by decide +kernel) (by decide +kernel) (by decide +kernel) (by decide) ?_
    refine lv_aload_n hx hb dX6_count_52 rfl (lv_at hl 0 rfl) ?_
    refine va_get (D := (dC, dI)) (ci := 6) (v := .ref nw) (C := RX6) (T := TX6) (N := 12) hx hb hts inX6 hown hK hP 0 rfl rfl 2 (by decide) (hts _ pq351) (fun _ h9 => h9) rfl dX6_count_53 ?_
    refine va_get (D := (dC, dI)) (ci := 1) (v := .int 0) (C := RX1) (T := TX1) (N := 5) hx hb hts inX1 hown hK hP 1 rfl rfl 3 (by decide) (hts _ pq226) (fun _ h9 => h9) rfl dX6_count_56 ?_
    exact W.iret (v := 0) hx hb hr (fun t ht hW => ⟨⟨0, (), rfl, by decide +kernel, trivial⟩, hS.F ht⟩) hS.2.2 dX6_count_59
  · refine lv_tableIn (off := 59) (tgt := 60) hx hb dX6_count_1 (by decide +kernel) (by decide +kernel) (by decide +kernel) (by decide) ?_
    refine lv_aload_n hx hb dX6_count_60 rfl (lv_at hl 0 rfl) ?_
    refine va_get (D := (dC, dI)) (ci := 6) (v := .ref nw) (C := RX6) (T := TX6) (N := 12) hx hb hts inX6 hown hK hP 0 rfl rfl 2 (by decide) (hts _ pq351) (fun _ h9 => h9) rfl dX6_count_61 ?_
    have hPc := hP.sub (ws' := [(nw, .inr (1, [.ref nm, .ref nb, .int 0, .int 0, .int 0]))]) [1] rfl
    have hDc := hD.sub (ws' := [(nw, .inr (1, [.ref nm, .ref nb, .int 0, .int 0, .int 0]))]) [1] (by decide) rfl
    have hKc := hK.sub (tys' := []) [] rfl
    refine ro_i (va_runV (As := []) (rest := []) ⟨hx, hb, hml, hown, hts⟩ (c_X1_dotsOfAll l dC dI nw nm nb H.size  ) (cwV 0 hts (gV pq1105 pq1106 pq1107 pq75 pq1108) rfl rfl rfl (by decide +kernel) ⟨(Nat.le_of_ble_eq_true rfl), (Nat.le_of_ble_eq_true rfl)⟩) (pc_V hPc hDc hKc hN (va_recv hK hP (ci := 1) (q0 := 1) rfl rfl)) rfl rfl hl.1 rfl (lv_room (Nat.le_of_ble_eq_true rfl)) dX6_count_64 ⟨(Nat.le_of_ble_eq_true rfl), (Nat.le_of_ble_eq_true rfl)⟩) hS hP (fun r2 H locs hr2 hP hS => ?_)
    subst hr2
    exact W.iret (v := 0) hx hb hr (fun t ht hW => ⟨⟨0, (), rfl, by decide +kernel, trivial⟩, hS.F ht⟩) hS.2.2 dX6_count_67
  · refine lv_tableIn (off := 67) (tgt := 68) hx hb dX6_count_1 (by decide +kernel) (by decide +kernel) (by decide +kernel) (by decide) ?_
    refine lv_aload_n hx hb dX6_count_68 rfl (lv_at hl 0 rfl) ?_
    refine va_get (D := (dC, dI)) (ci := 6) (v := .int 0) (C := RX6) (T := TX6) (N := 12) hx hb hts inX6 hown hK hP 0 rfl rfl 10 (by decide) (hts _ pq359) (fun _ h9 => h9) rfl dX6_count_69 ?_
    exact W.iret (v := 0) hx hb hr (fun t ht hW => ⟨⟨0, (), rfl, by decide +kernel, trivial⟩, hS.F ht⟩) hS.2.2 dX6_count_72
  · refine lv_tableIn (off := 72) (tgt := 73) hx hb dX6_count_1 (by decide +kernel) (by decide +kernel) (by decide +kernel) (by decide) ?_
    refine lv_aload_n hx hb dX6_count_73 rfl (lv_at hl 0 rfl) ?_
    refine va_get (D := (dC, dI)) (ci := 6) (v := .int 0) (C := RX6) (T := TX6) (N := 12) hx hb hts inX6 hown hK hP 0 rfl rfl 1 (by decide) (hts _ pq350) (fun _ h9 => h9) rfl dX6_count_74 ?_
    exact W.iret (v := 0) hx hb hr (fun t ht hW => ⟨⟨0, (), rfl, by decide +kernel, trivial⟩, hS.F ht⟩) hS.2.2 dX6_count_77
  · refine lv_tableIn (off := 77) (tgt := 78) hx hb dX6_count_1 (by decide +kernel) (by decide +kernel) (by decide +kernel) (by decide) ?_
    refine lv_aload_n hx hb dX6_count_78 rfl (lv_at hl 0 rfl) ?_
    refine va_get (D := (dC, dI)) (ci := 6) (v := .ref sh) (C := RX6) (T := TX6) (N := 12) hx hb hts inX6 hown hK hP 0 rfl rfl 11 (by decide) (hts _ pq360) (fun _ h9 => h9) rfl dX6_count_79 ?_
    refine lv_iconst (v := 0) hx hb dX6_count_82 (by decide +kernel) ?_
    refine va_aldq hx hb hK hP 2 0 rfl rfl (in_d (by decide +kernel)) dX6_count_83 ?_
    refine W.eq (g2 := F0 m 84 ls [.null]) rfl ?_
    refine lv_ifnullN (tgt := 91) hx hb dX6_count_84 (by decide) ?_
    refine lv_iconst (v := 0) hx hb dX6_count_91 (by decide +kernel) ?_
    refine lv_aload_n hx hb dX6_count_92 rfl (lv_at hl 0 rfl) ?_
    refine va_get (D := (dC, dI)) (ci := 6) (v := .ref sh) (C := RX6) (T := TX6) (N := 12) hx hb hts inX6 hown hK hP 0 rfl rfl 11 (by decide) (hts _ pq360) (fun _ h9 => h9) rfl dX6_count_93 ?_
    refine lv_iconst (v := 1) hx hb dX6_count_96 (by decide +kernel) ?_
    refine va_aldq hx hb hK hP 2 0 rfl rfl (in_d (by decide +kernel)) dX6_count_97 ?_
    refine W.eq (g2 := F0 m 98 ls [.null, .int 0]) rfl ?_
    refine lv_ifnullN (tgt := 105) hx hb dX6_count_98 (by decide) ?_
    refine lv_iconst (v := 0) hx hb dX6_count_105 (by decide +kernel) ?_
    refine lv_iadd hx hb dX6_count_106 ?_
    refine lv_topi (fun z3 ez3 => ?_)
    obtain rfl : z3 = 0 := ez3.trans (by decide +kernel)
    exact W.iret (v := 0) hx hb hr (fun t ht hW => ⟨⟨0, (), rfl, by decide +kernel, trivial⟩, hS.F ht⟩) hS.2.2 dX6_count_107
  · refine lv_tableIn (off := 107) (tgt := 108) hx hb dX6_count_1 (by decide +kernel) (by decide +kernel) (by decide +kernel) (by decide) ?_
    refine lv_aload_n hx hb dX6_count_108 rfl (lv_at hl 0 rfl) ?_
    refine va_get (D := (dC, dI)) (ci := 6) (v := .ref nw) (C := RX6) (T := TX6) (N := 12) hx hb hts inX6 hown hK hP 0 rfl rfl 2 (by decide) (hts _ pq351) (fun _ h9 => h9) rfl dX6_count_109 ?_
    refine va_get (D := (dC, dI)) (ci := 1) (v := .int 0) (C := RX1) (T := TX1) (N := 5) hx hb hts inX1 hown hK hP 1 rfl rfl 4 (by decide) (hts _ pq229) (fun _ h9 => h9) rfl dX6_count_112 ?_
    exact W.iret (v := 0) hx hb hr (fun t ht hW => ⟨⟨0, (), rfl, by decide +kernel, trivial⟩, hS.F ht⟩) hS.2.2 dX6_count_115
  · refine lv_tableOut (tgt := 116) hx hb dX6_count_1 h1 (by decide) ?_
    refine lv_iconst (v := (-1)) hx hb dX6_count_116 (by decide +kernel) ?_
    exact W.iret (v := (-1)) hx hb hr (fun t ht hW => ⟨⟨(-1), (), rfl, (if_pos h1).symm, trivial⟩, hS.F ht⟩) hS.2.2 dX6_count_117
end
section
def yX6_tapeNumber : MethodName := ⟨RX6, "tapeNumber", "(I)V"⟩
abbrev cX6_tapeNumber : ByteArray := prog_1_method_3_code
abbrev cX6_feed : ByteArray := prog_1_method_2_code
def yX6_feed : MethodName := ⟨RX6, "feed", "(IIIII)I"⟩
theorem dX6_feed_0 : decode cX6_feed 0 = .ok (.aload_n 0, 1) := by decide +kernel
theorem dX6_feed_1 : decode cX6_feed 1 = .ok (.getfield 13, 3) := by decide +kernel
theorem dX6_feed_4 : decode cX6_feed 4 = .ok (.bipush 20, 2) := by decide +kernel
theorem dX6_feed_6 : decode cX6_feed 6 = .ok (.iadd, 1) := by decide +kernel
theorem dX6_feed_7 : decode cX6_feed 7 = .ok (.sipush 400, 3) := by decide +kernel
theorem dX6_feed_10 : decode cX6_feed 10 = .ok (.if_icmp .le 5, 3) := by decide +kernel
theorem dX6_feed_15 : decode cX6_feed 15 = .ok (.aload_n 0, 1) := by decide +kernel
theorem dX6_feed_16 : decode cX6_feed 16 = .ok (.iload_n 1, 1) := by decide +kernel
theorem dX6_feed_17 : decode cX6_feed 17 = .ok (.invokevirtual 72, 3) := by decide +kernel
theorem dX6_feed_20 : decode cX6_feed 20 = .ok (.aload_n 0, 1) := by decide +kernel
theorem dX6_feed_21 : decode cX6_feed 21 = .ok (.iload_n 2, 1) := by decide +kernel
theorem dX6_feed_22 : decode cX6_feed 22 = .ok (.invokevirtual 72, 3) := by decide +kernel
theorem dX6_feed_25 : decode cX6_feed 25 = .ok (.aload_n 0, 1) := by decide +kernel
theorem dX6_feed_26 : decode cX6_feed 26 = .ok (.iload_n 3, 1) := by decide +kernel
theorem dX6_feed_27 : decode cX6_feed 27 = .ok (.invokevirtual 72, 3) := by decide +kernel
theorem dX6_feed_30 : decode cX6_feed 30 = .ok (.aload_n 0, 1) := by decide +kernel
theorem dX6_feed_31 : decode cX6_feed 31 = .ok (.iload 4, 2) := by decide +kernel
theorem dX6_feed_33 : decode cX6_feed 33 = .ok (.invokevirtual 72, 3) := by decide +kernel
theorem dX6_feed_36 : decode cX6_feed 36 = .ok (.aload_n 0, 1) := by decide +kernel
theorem dX6_feed_37 : decode cX6_feed 37 = .ok (.iload 5, 2) := by decide +kernel
theorem dX6_feed_39 : decode cX6_feed 39 = .ok (.invokevirtual 72, 3) := by decide +kernel
theorem dX6_feed_42 : decode cX6_feed 42 = .ok (.aload_n 0, 1) := by decide +kernel
theorem dX6_feed_43 : decode cX6_feed 43 = .ok (.getfield 13, 3) := by decide +kernel
theorem dX6_feed_46 : decode cX6_feed 46 = .ok (.ireturn, 1) := by decide +kernel
theorem dX6_tapeNumber_0 : decode cX6_tapeNumber 0 = .ok (.bipush 24, 2) := by decide +kernel
theorem dX6_tapeNumber_2 : decode cX6_tapeNumber 2 = .ok (.istore_n 2, 1) := by decide +kernel
theorem dX6_tapeNumber_3 : decode cX6_tapeNumber 3 = .ok (.iload_n 2, 1) := by decide +kernel
theorem dX6_tapeNumber_4 : decode cX6_tapeNumber 4 = .ok (.ifCond .lt 42, 3) := by decide +kernel
theorem dX6_tapeNumber_7 : decode cX6_tapeNumber 7 = .ok (.aload_n 0, 1) := by decide +kernel
theorem dX6_tapeNumber_8 : decode cX6_tapeNumber 8 = .ok (.getfield 13, 3) := by decide +kernel
theorem dX6_tapeNumber_11 : decode cX6_tapeNumber 11 = .ok (.sipush 400, 3) := by decide +kernel
theorem dX6_tapeNumber_14 : decode cX6_tapeNumber 14 = .ok (.if_icmp .ge 32, 3) := by decide +kernel
theorem dX6_tapeNumber_17 : decode cX6_tapeNumber 17 = .ok (.aload_n 0, 1) := by decide +kernel
theorem dX6_tapeNumber_18 : decode cX6_tapeNumber 18 = .ok (.getfield 9, 3) := by decide +kernel
theorem dX6_tapeNumber_21 : decode cX6_tapeNumber 21 = .ok (.aload_n 0, 1) := by decide +kernel
theorem dX6_tapeNumber_22 : decode cX6_tapeNumber 22 = .ok (.getfield 13, 3) := by decide +kernel
theorem dX6_tapeNumber_25 : decode cX6_tapeNumber 25 = .ok (.iload_n 1, 1) := by decide +kernel
theorem dX6_tapeNumber_26 : decode cX6_tapeNumber 26 = .ok (.iload_n 2, 1) := by decide +kernel
theorem dX6_tapeNumber_27 : decode cX6_tapeNumber 27 = .ok (.ishr, 1) := by decide +kernel
theorem dX6_tapeNumber_28 : decode cX6_tapeNumber 28 = .ok (.i2b, 1) := by decide +kernel
theorem dX6_tapeNumber_29 : decode cX6_tapeNumber 29 = .ok (.bastore, 1) := by decide +kernel
theorem dX6_tapeNumber_30 : decode cX6_tapeNumber 30 = .ok (.aload_n 0, 1) := by decide +kernel
theorem dX6_tapeNumber_31 : decode cX6_tapeNumber 31 = .ok (.dup, 1) := by decide +kernel
theorem dX6_tapeNumber_32 : decode cX6_tapeNumber 32 = .ok (.getfield 13, 3) := by decide +kernel
theorem dX6_tapeNumber_35 : decode cX6_tapeNumber 35 = .ok (.iconst 1, 1) := by decide +kernel
theorem dX6_tapeNumber_36 : decode cX6_tapeNumber 36 = .ok (.iadd, 1) := by decide +kernel
theorem dX6_tapeNumber_37 : decode cX6_tapeNumber 37 = .ok (.putfield 13, 3) := by decide +kernel
theorem dX6_tapeNumber_40 : decode cX6_tapeNumber 40 = .ok (.iinc 2 (-8), 3) := by decide +kernel
theorem dX6_tapeNumber_43 : decode cX6_tapeNumber 43 = .ok (.goto (-40), 3) := by decide +kernel
theorem dX6_tapeNumber_46 : decode cX6_tapeNumber 46 = .ok (.return_, 1) := by decide +kernel
set_option maxRecDepth 100000 in
theorem pq0 : Cond.selects RX6 yX6_tapeNumber yX6_tapeNumber ∈ pw := pw_mem (i := 0) (by decide +kernel) rfl
set_option maxRecDepth 100000 in
theorem pq390 : Cond.methodLink RX6 72 yX6_tapeNumber ∈ pw := pw_mem (i := 390) (by decide +kernel) rfl
set_option maxRecDepth 100000 in
theorem pq392 : Cond.instanceMethod yX6_tapeNumber ∈ pw := pw_mem (i := 392) (by decide +kernel) rfl
set_option maxRecDepth 100000 in
theorem pq393 : Cond.code yX6_tapeNumber cX6_tapeNumber 3 none ∈ pw := pw_mem (i := 393) (by rfl) rfl
set_option maxHeartbeats 4000000 in
set_option maxRecDepth 100000 in
theorem c_X6_tapeNumber_0 (l : Launch) (dC : Nat → ClassId) (dI : Nat → Nat → Nat) (h0 tp nw dr rd sc sk fl ps sh : Nat) (kB : ClassId) (sz : Nat) (f : Nat → Int32) (p0 : Int32) : Met l yX6_tapeNumber (.code yX6_tapeNumber cX6_tapeNumber 3 none :: pw) ({ frames := 0, cells := 0, slots := 0, locals := 0 }) (pc (dC, dI) [.ref h0, .int p0] sz [(h0, .inr (6, [.ref tp, .int 0, .ref nw, .ref dr, .ref rd, .ref sc, .ref sk, .ref fl, .ref ps, .int 0, .int 0, .ref sh])), (tp, .inl (kB, 400, .inl f))] [(kB, .byte)]) (va_Qv (fun (_ : Unit) => True) (fun _ t => ∃ (g : Nat → Int32), wB (dC, dI) [(h0, .inr (6, [.ref tp, .int 4, .ref nw, .ref dr, .ref rd, .ref sc, .ref sk, .ref fl, .ref ps, .int 0, .int 0, .ref sh])), (tp, .inl (kB, 400, .inl g))] [(kB, .byte)] (va_A [(h0, .inr (6, [.ref tp, .int 0, .ref nw, .ref dr, .ref rd, .ref sc, .ref sk, .ref fl, .ref ps, .int 0, .int 0, .ref sh])), (tp, .inl (kB, 400, .inl f))] sz) t) (va_A [(h0, .inr (6, [.ref tp, .int 0, .ref nw, .ref dr, .ref rd, .ref sc, .ref sk, .ref fl, .ref ps, .int 0, .int 0, .ref sh])), (tp, .inl (kB, 400, .inl f))] sz)) 0 0 (va_A [(h0, .inr (6, [.ref tp, .int 0, .ref nw, .ref dr, .ref rd, .ref sc, .ref sk, .ref fl, .ref ps, .int 0, .int 0, .ref sh])), (tp, .inl (kB, 400, .inl f))] sz) := by
  refine Met.ofW (cc := cX6_tapeNumber) (maxL := 3) (ret := none) (by decide +kernel) rfl ?_
  intro p e s m args below meth c s₁ B hml hv
  obtain ⟨rfl, hsz, hP, hK, hD0, hN⟩ := hv
  have hx := B.exec
  have hb := B.bytes
  have hr := B.returns
  have hts := fun w (h : w ∈ pw) => atoms_spec (ws := Cond.code yX6_tapeNumber cX6_tapeNumber 3 none :: pw) B.pre w (List.mem_cons_of_mem _ h)
  have hown : s.vm.findClass RX6 = some m.cls := findClass_of_methodNamed B.named
  have hlocks := B.notSynchronized
  subst hsz
  have hD := hD0.self (sz := s.heap.size)
  generalize hAe : va_A [(h0, .inr (6, [.ref tp, .int 0, .ref nw, .ref dr, .ref rd, .ref sc, .ref sk, .ref fl, .ref ps, .int 0, .int 0, .ref sh])), (tp, .inl (kB, 400, .inl f))] s.heap.size = A at hD ⊢
  have hA : ∀ q : Nat, s.heap.size ≤ q → A q := fun q h => by rw [← hAe]; exact Or.inr h
  obtain ⟨H, hHe⟩ : ∃ H : Heap, H = s.heap := ⟨_, rfl⟩
  have hS : va_S A s.heap H [] := by rw [hHe]; exact va_S.rf
  rw [← hHe] at hP
  have hl := lv_entry ([.ref h0, .int p0]) (n := 3) (Nat.le_of_ble_eq_true rfl)
  rw [lg_entry_eq]
  generalize (lg_sl ([.ref h0, .int p0]) ++ List.replicate (3 - (lg_sl ([.ref h0, .int p0])).length) Slot.unset).toArray = ls at hl ⊢
  have hl : lv_has ls 3 [(0, .ref h0), (1, .int p0)] := hl
  rw [← hHe]
  refine lv_bipush (v := 24) hx hb dX6_tapeNumber_0 (by decide +kernel) ?_
  refine lv_istore_n (lv' := [(2, .int 24), (0, .ref h0), (1, .int p0)]) hx hb dX6_tapeNumber_2 rfl hl (by decide) rfl (fun ls hl => ?_)
  refine lv_iload_n hx hb dX6_tapeNumber_3 rfl (lv_at hl 0 rfl) ?_
  refine lv_if_lt (tgt := 46) hx hb dX6_tapeNumber_4 (by decide) (fun c1 => absurd c1 (by decide +kernel)) (fun c1 => ?_)
  refine lv_aload_n hx hb dX6_tapeNumber_7 rfl (lv_at hl 1 rfl) ?_
  refine va_get (D := (dC, dI)) (ci := 6) (v := .int 0) (C := RX6) (T := TX6) (N := 12) hx hb hts inX6 hown hK hP 0 rfl rfl 1 (by decide) (hts _ pq350) (fun _ h9 => h9) rfl dX6_tapeNumber_8 ?_
  refine lv_sipush (v := 400) hx hb dX6_tapeNumber_11 (by decide +kernel) ?_
  refine lv_icmp_ge (tgt := 46) hx hb dX6_tapeNumber_14 (by decide) (fun c2 => absurd c2 (by decide +kernel)) (fun c2 => ?_)
  refine lv_aload_n hx hb dX6_tapeNumber_17 rfl (lv_at hl 1 rfl) ?_
  refine va_get (D := (dC, dI)) (ci := 6) (v := .ref tp) (C := RX6) (T := TX6) (N := 12) hx hb hts inX6 hown hK hP 0 rfl rfl 0 (by decide) (hts _ pq349) (fun _ h9 => h9) rfl dX6_tapeNumber_18 ?_
  refine lv_aload_n hx hb dX6_tapeNumber_21 rfl (lv_at hl 1 rfl) ?_
  refine va_get (D := (dC, dI)) (ci := 6) (v := .int 0) (C := RX6) (T := TX6) (N := 12) hx hb hts inX6 hown hK hP 0 rfl rfl 1 (by decide) (hts _ pq350) (fun _ h9 => h9) rfl dX6_tapeNumber_22 ?_
  refine lv_iload_n hx hb dX6_tapeNumber_25 rfl (lv_at hl 2 rfl) ?_
  refine lv_iload_n hx hb dX6_tapeNumber_26 rfl (lv_at hl 0 rfl) ?_
  refine lv_ishr hx hb dX6_tapeNumber_27 ?_
  refine lv_topi (fun z3 ez3 => ?_)
  refine lv_i2b hx hb dX6_tapeNumber_28 rfl ?_
  refine lv_topi (fun z5 ez5 => ?_)
  refine va_bast hx hb hK hP hD hS 1 0 rfl rfl (in_d (by decide +kernel)) dX6_tapeNumber_29 (fun H locs hP hD hS => ?_)
  obtain ⟨f6, hP, hD⟩ : ∃ f6 : Nat → Int32, va_P (dC, dI) vwCl [(h0, .inr (6, [.ref tp, .int 0, .ref nw, .ref dr, .ref rd, .ref sc, .ref sk, .ref fl, .ref ps, .int 0, .int 0, .ref sh])), (tp, .inl (kB, 400, .inl f6))] H ∧ va_D A [(h0, .inr (6, [.ref tp, .int 0, .ref nw, .ref dr, .ref rd, .ref sc, .ref sk, .ref fl, .ref ps, .int 0, .int 0, .ref sh])), (tp, .inl (kB, 400, .inl f6))] := ⟨_, hP, hD⟩
  refine lv_aload_n hx hb dX6_tapeNumber_30 rfl (lv_at hl 1 rfl) ?_
  refine lv_dup hx hb dX6_tapeNumber_31 rfl ?_
  refine va_get (D := (dC, dI)) (ci := 6) (v := .int 0) (C := RX6) (T := TX6) (N := 12) hx hb hts inX6 hown hK hP 0 rfl rfl 1 (by decide) (hts _ pq350) (fun _ h9 => h9) rfl dX6_tapeNumber_32 ?_
  refine lv_iconst (v := 1) hx hb dX6_tapeNumber_35 (by decide +kernel) ?_
  refine lv_iadd hx hb dX6_tapeNumber_36 ?_
  refine lv_topi (fun z7 ez7 => ?_)
  obtain rfl : z7 = 1 := ez7.trans (by decide +kernel)
  refine va_put (D := (dC, dI)) (ci := 6) (v := .int 1) (ty := tyX6 1) (C := RX6) (T := TX6) (N := 12) hx hb hts inX6 tyX6 tyX6_ok nmX6 hown hK hP hD hS 0 rfl rfl 1 (by decide) (hts _ pq350) (fun _ h9 => h9) rfl (by decide +kernel) rfl rfl (Nat.le_of_ble_eq_true rfl) dX6_tapeNumber_37 (fun H locs hP hD hS => ?_)
  have hP : va_P (dC, dI) vwCl [(h0, .inr (6, [.ref tp, .int 1, .ref nw, .ref dr, .ref rd, .ref sc, .ref sk, .ref fl, .ref ps, .int 0, .int 0, .ref sh])), (tp, .inl (kB, 400, .inl f6))] H := hP
  have hD : va_D A [(h0, .inr (6, [.ref tp, .int 1, .ref nw, .ref dr, .ref rd, .ref sc, .ref sk, .ref fl, .ref ps, .int 0, .int 0, .ref sh])), (tp, .inl (kB, 400, .inl f6))] := hD
  refine lv_iinc (v := 16) (lv' := [(2, .int 16), (0, .ref h0), (1, .int p0)]) hx hb dX6_tapeNumber_40 hl (k := 0) rfl (by decide +kernel) (by decide) rfl (fun ls hl => ?_)
  refine lv_goto (tgt := 3) hx hb dX6_tapeNumber_43 (by decide) ?_
  refine lv_iload_n hx hb dX6_tapeNumber_3 rfl (lv_at hl 0 rfl) ?_
  refine lv_if_lt (tgt := 46) hx hb dX6_tapeNumber_4 (by decide) (fun c8 => absurd c8 (by decide +kernel)) (fun c8 => ?_)
  refine lv_aload_n hx hb dX6_tapeNumber_7 rfl (lv_at hl 1 rfl) ?_
  refine va_get (D := (dC, dI)) (ci := 6) (v := .int 1) (C := RX6) (T := TX6) (N := 12) hx hb hts inX6 hown hK hP 0 rfl rfl 1 (by decide) (hts _ pq350) (fun _ h9 => h9) rfl dX6_tapeNumber_8 ?_
  refine lv_sipush (v := 400) hx hb dX6_tapeNumber_11 (by decide +kernel) ?_
  refine lv_icmp_ge (tgt := 46) hx hb dX6_tapeNumber_14 (by decide) (fun c9 => absurd c9 (by decide +kernel)) (fun c9 => ?_)
  refine lv_aload_n hx hb dX6_tapeNumber_17 rfl (lv_at hl 1 rfl) ?_
  refine va_get (D := (dC, dI)) (ci := 6) (v := .ref tp) (C := RX6) (T := TX6) (N := 12) hx hb hts inX6 hown hK hP 0 rfl rfl 0 (by decide) (hts _ pq349) (fun _ h9 => h9) rfl dX6_tapeNumber_18 ?_
  refine lv_aload_n hx hb dX6_tapeNumber_21 rfl (lv_at hl 1 rfl) ?_
  refine va_get (D := (dC, dI)) (ci := 6) (v := .int 1) (C := RX6) (T := TX6) (N := 12) hx hb hts inX6 hown hK hP 0 rfl rfl 1 (by decide) (hts _ pq350) (fun _ h9 => h9) rfl dX6_tapeNumber_22 ?_
  refine lv_iload_n hx hb dX6_tapeNumber_25 rfl (lv_at hl 2 rfl) ?_
  refine lv_iload_n hx hb dX6_tapeNumber_26 rfl (lv_at hl 0 rfl) ?_
  refine lv_ishr hx hb dX6_tapeNumber_27 ?_
  refine lv_topi (fun z10 ez10 => ?_)
  refine lv_i2b hx hb dX6_tapeNumber_28 rfl ?_
  refine lv_topi (fun z12 ez12 => ?_)
  refine va_bast hx hb hK hP hD hS 1 0 rfl rfl (in_d (by decide +kernel)) dX6_tapeNumber_29 (fun H locs hP hD hS => ?_)
  obtain ⟨f13, hP, hD⟩ : ∃ f13 : Nat → Int32, va_P (dC, dI) vwCl [(h0, .inr (6, [.ref tp, .int 1, .ref nw, .ref dr, .ref rd, .ref sc, .ref sk, .ref fl, .ref ps, .int 0, .int 0, .ref sh])), (tp, .inl (kB, 400, .inl f13))] H ∧ va_D A [(h0, .inr (6, [.ref tp, .int 1, .ref nw, .ref dr, .ref rd, .ref sc, .ref sk, .ref fl, .ref ps, .int 0, .int 0, .ref sh])), (tp, .inl (kB, 400, .inl f13))] := ⟨_, hP, hD⟩
  refine lv_aload_n hx hb dX6_tapeNumber_30 rfl (lv_at hl 1 rfl) ?_
  refine lv_dup hx hb dX6_tapeNumber_31 rfl ?_
  refine va_get (D := (dC, dI)) (ci := 6) (v := .int 1) (C := RX6) (T := TX6) (N := 12) hx hb hts inX6 hown hK hP 0 rfl rfl 1 (by decide) (hts _ pq350) (fun _ h9 => h9) rfl dX6_tapeNumber_32 ?_
  refine lv_iconst (v := 1) hx hb dX6_tapeNumber_35 (by decide +kernel) ?_
  refine lv_iadd hx hb dX6_tapeNumber_36 ?_
  refine lv_topi (fun z14 ez14 => ?_)
  obtain rfl : z14 = 2 := ez14.trans (by decide +kernel)
  refine va_put (D := (dC, dI)) (ci := 6) (v := .int 2) (ty := tyX6 1) (C := RX6) (T := TX6) (N := 12) hx hb hts inX6 tyX6 tyX6_ok nmX6 hown hK hP hD hS 0 rfl rfl 1 (by decide) (hts _ pq350) (fun _ h9 => h9) rfl (by decide +kernel) rfl rfl (Nat.le_of_ble_eq_true rfl) dX6_tapeNumber_37 (fun H locs hP hD hS => ?_)
  have hP : va_P (dC, dI) vwCl [(h0, .inr (6, [.ref tp, .int 2, .ref nw, .ref dr, .ref rd, .ref sc, .ref sk, .ref fl, .ref ps, .int 0, .int 0, .ref sh])), (tp, .inl (kB, 400, .inl f13))] H := hP
  have hD : va_D A [(h0, .inr (6, [.ref tp, .int 2, .ref nw, .ref dr, .ref rd, .ref sc, .ref sk, .ref fl, .ref ps, .int 0, .int 0, .ref sh])), (tp, .inl (kB, 400, .inl f13))] := hD
  refine lv_iinc (v := 8) (lv' := [(2, .int 8), (0, .ref h0), (1, .int p0)]) hx hb dX6_tapeNumber_40 hl (k := 0) rfl (by decide +kernel) (by decide) rfl (fun ls hl => ?_)
  refine lv_goto (tgt := 3) hx hb dX6_tapeNumber_43 (by decide) ?_
  refine lv_iload_n hx hb dX6_tapeNumber_3 rfl (lv_at hl 0 rfl) ?_
  refine lv_if_lt (tgt := 46) hx hb dX6_tapeNumber_4 (by decide) (fun c15 => absurd c15 (by decide +kernel)) (fun c15 => ?_)
  refine lv_aload_n hx hb dX6_tapeNumber_7 rfl (lv_at hl 1 rfl) ?_
  refine va_get (D := (dC, dI)) (ci := 6) (v := .int 2) (C := RX6) (T := TX6) (N := 12) hx hb hts inX6 hown hK hP 0 rfl rfl 1 (by decide) (hts _ pq350) (fun _ h9 => h9) rfl dX6_tapeNumber_8 ?_
  refine lv_sipush (v := 400) hx hb dX6_tapeNumber_11 (by decide +kernel) ?_
  refine lv_icmp_ge (tgt := 46) hx hb dX6_tapeNumber_14 (by decide) (fun c16 => absurd c16 (by decide +kernel)) (fun c16 => ?_)
  refine lv_aload_n hx hb dX6_tapeNumber_17 rfl (lv_at hl 1 rfl) ?_
  refine va_get (D := (dC, dI)) (ci := 6) (v := .ref tp) (C := RX6) (T := TX6) (N := 12) hx hb hts inX6 hown hK hP 0 rfl rfl 0 (by decide) (hts _ pq349) (fun _ h9 => h9) rfl dX6_tapeNumber_18 ?_
  refine lv_aload_n hx hb dX6_tapeNumber_21 rfl (lv_at hl 1 rfl) ?_
  refine va_get (D := (dC, dI)) (ci := 6) (v := .int 2) (C := RX6) (T := TX6) (N := 12) hx hb hts inX6 hown hK hP 0 rfl rfl 1 (by decide) (hts _ pq350) (fun _ h9 => h9) rfl dX6_tapeNumber_22 ?_
  refine lv_iload_n hx hb dX6_tapeNumber_25 rfl (lv_at hl 2 rfl) ?_
  refine lv_iload_n hx hb dX6_tapeNumber_26 rfl (lv_at hl 0 rfl) ?_
  refine lv_ishr hx hb dX6_tapeNumber_27 ?_
  refine lv_topi (fun z17 ez17 => ?_)
  refine lv_i2b hx hb dX6_tapeNumber_28 rfl ?_
  refine lv_topi (fun z19 ez19 => ?_)
  refine va_bast hx hb hK hP hD hS 1 0 rfl rfl (in_d (by decide +kernel)) dX6_tapeNumber_29 (fun H locs hP hD hS => ?_)
  obtain ⟨f20, hP, hD⟩ : ∃ f20 : Nat → Int32, va_P (dC, dI) vwCl [(h0, .inr (6, [.ref tp, .int 2, .ref nw, .ref dr, .ref rd, .ref sc, .ref sk, .ref fl, .ref ps, .int 0, .int 0, .ref sh])), (tp, .inl (kB, 400, .inl f20))] H ∧ va_D A [(h0, .inr (6, [.ref tp, .int 2, .ref nw, .ref dr, .ref rd, .ref sc, .ref sk, .ref fl, .ref ps, .int 0, .int 0, .ref sh])), (tp, .inl (kB, 400, .inl f20))] := ⟨_, hP, hD⟩
  refine lv_aload_n hx hb dX6_tapeNumber_30 rfl (lv_at hl 1 rfl) ?_
  refine lv_dup hx hb dX6_tapeNumber_31 rfl ?_
  refine va_get (D := (dC, dI)) (ci := 6) (v := .int 2) (C := RX6) (T := TX6) (N := 12) hx hb hts inX6 hown hK hP 0 rfl rfl 1 (by decide) (hts _ pq350) (fun _ h9 => h9) rfl dX6_tapeNumber_32 ?_
  refine lv_iconst (v := 1) hx hb dX6_tapeNumber_35 (by decide +kernel) ?_
  refine lv_iadd hx hb dX6_tapeNumber_36 ?_
  refine lv_topi (fun z21 ez21 => ?_)
  obtain rfl : z21 = 3 := ez21.trans (by decide +kernel)
  refine va_put (D := (dC, dI)) (ci := 6) (v := .int 3) (ty := tyX6 1) (C := RX6) (T := TX6) (N := 12) hx hb hts inX6 tyX6 tyX6_ok nmX6 hown hK hP hD hS 0 rfl rfl 1 (by decide) (hts _ pq350) (fun _ h9 => h9) rfl (by decide +kernel) rfl rfl (Nat.le_of_ble_eq_true rfl) dX6_tapeNumber_37 (fun H locs hP hD hS => ?_)
  have hP : va_P (dC, dI) vwCl [(h0, .inr (6, [.ref tp, .int 3, .ref nw, .ref dr, .ref rd, .ref sc, .ref sk, .ref fl, .ref ps, .int 0, .int 0, .ref sh])), (tp, .inl (kB, 400, .inl f20))] H := hP
  have hD : va_D A [(h0, .inr (6, [.ref tp, .int 3, .ref nw, .ref dr, .ref rd, .ref sc, .ref sk, .ref fl, .ref ps, .int 0, .int 0, .ref sh])), (tp, .inl (kB, 400, .inl f20))] := hD
  refine lv_iinc (v := 0) (lv' := [(2, .int 0), (0, .ref h0), (1, .int p0)]) hx hb dX6_tapeNumber_40 hl (k := 0) rfl (by decide +kernel) (by decide) rfl (fun ls hl => ?_)
  refine lv_goto (tgt := 3) hx hb dX6_tapeNumber_43 (by decide) ?_
  refine lv_iload_n hx hb dX6_tapeNumber_3 rfl (lv_at hl 0 rfl) ?_
  refine lv_if_lt (tgt := 46) hx hb dX6_tapeNumber_4 (by decide) (fun c22 => absurd c22 (by decide +kernel)) (fun c22 => ?_)
  refine lv_aload_n hx hb dX6_tapeNumber_7 rfl (lv_at hl 1 rfl) ?_
  refine va_get (D := (dC, dI)) (ci := 6) (v := .int 3) (C := RX6) (T := TX6) (N := 12) hx hb hts inX6 hown hK hP 0 rfl rfl 1 (by decide) (hts _ pq350) (fun _ h9 => h9) rfl dX6_tapeNumber_8 ?_
  refine lv_sipush (v := 400) hx hb dX6_tapeNumber_11 (by decide +kernel) ?_
  refine lv_icmp_ge (tgt := 46) hx hb dX6_tapeNumber_14 (by decide) (fun c23 => absurd c23 (by decide +kernel)) (fun c23 => ?_)
  refine lv_aload_n hx hb dX6_tapeNumber_17 rfl (lv_at hl 1 rfl) ?_
  refine va_get (D := (dC, dI)) (ci := 6) (v := .ref tp) (C := RX6) (T := TX6) (N := 12) hx hb hts inX6 hown hK hP 0 rfl rfl 0 (by decide) (hts _ pq349) (fun _ h9 => h9) rfl dX6_tapeNumber_18 ?_
  refine lv_aload_n hx hb dX6_tapeNumber_21 rfl (lv_at hl 1 rfl) ?_
  refine va_get (D := (dC, dI)) (ci := 6) (v := .int 3) (C := RX6) (T := TX6) (N := 12) hx hb hts inX6 hown hK hP 0 rfl rfl 1 (by decide) (hts _ pq350) (fun _ h9 => h9) rfl dX6_tapeNumber_22 ?_
  refine lv_iload_n hx hb dX6_tapeNumber_25 rfl (lv_at hl 2 rfl) ?_
  refine lv_iload_n hx hb dX6_tapeNumber_26 rfl (lv_at hl 0 rfl) ?_
  refine lv_ishr hx hb dX6_tapeNumber_27 ?_
  refine lv_topi (fun z24 ez24 => ?_)
  refine lv_i2b hx hb dX6_tapeNumber_28 rfl ?_
  refine lv_topi (fun z26 ez26 => ?_)
  refine va_bast hx hb hK hP hD hS 1 0 rfl rfl (in_d (by decide +kernel)) dX6_tapeNumber_29 (fun H locs hP hD hS => ?_)
  obtain ⟨f27, hP, hD⟩ : ∃ f27 : Nat → Int32, va_P (dC, dI) vwCl [(h0, .inr (6, [.ref tp, .int 3, .ref nw, .ref dr, .ref rd, .ref sc, .ref sk, .ref fl, .ref ps, .int 0, .int 0, .ref sh])), (tp, .inl (kB, 400, .inl f27))] H ∧ va_D A [(h0, .inr (6, [.ref tp, .int 3, .ref nw, .ref dr, .ref rd, .ref sc, .ref sk, .ref fl, .ref ps, .int 0, .int 0, .ref sh])), (tp, .inl (kB, 400, .inl f27))] := ⟨_, hP, hD⟩
  refine lv_aload_n hx hb dX6_tapeNumber_30 rfl (lv_at hl 1 rfl) ?_
  refine lv_dup hx hb dX6_tapeNumber_31 rfl ?_
  refine va_get (D := (dC, dI)) (ci := 6) (v := .int 3) (C := RX6) (T := TX6) (N := 12) hx hb hts inX6 hown hK hP 0 rfl rfl 1 (by decide) (hts _ pq350) (fun _ h9 => h9) rfl dX6_tapeNumber_32 ?_
  refine lv_iconst (v := 1) hx hb dX6_tapeNumber_35 (by decide +kernel) ?_
  refine lv_iadd hx hb dX6_tapeNumber_36 ?_
  refine lv_topi (fun z28 ez28 => ?_)
  obtain rfl : z28 = 4 := ez28.trans (by decide +kernel)
  refine va_put (D := (dC, dI)) (ci := 6) (v := .int 4) (ty := tyX6 1) (C := RX6) (T := TX6) (N := 12) hx hb hts inX6 tyX6 tyX6_ok nmX6 hown hK hP hD hS 0 rfl rfl 1 (by decide) (hts _ pq350) (fun _ h9 => h9) rfl (by decide +kernel) rfl rfl (Nat.le_of_ble_eq_true rfl) dX6_tapeNumber_37 (fun H locs hP hD hS => ?_)
  have hP : va_P (dC, dI) vwCl [(h0, .inr (6, [.ref tp, .int 4, .ref nw, .ref dr, .ref rd, .ref sc, .ref sk, .ref fl, .ref ps, .int 0, .int 0, .ref sh])), (tp, .inl (kB, 400, .inl f27))] H := hP
  have hD : va_D A [(h0, .inr (6, [.ref tp, .int 4, .ref nw, .ref dr, .ref rd, .ref sc, .ref sk, .ref fl, .ref ps, .int 0, .int 0, .ref sh])), (tp, .inl (kB, 400, .inl f27))] := hD
  refine lv_iinc (v := (-8)) (lv' := [(2, .int (-8)), (0, .ref h0), (1, .int p0)]) hx hb dX6_tapeNumber_40 hl (k := 0) rfl (by decide +kernel) (by decide) rfl (fun ls hl => ?_)
  refine lv_goto (tgt := 3) hx hb dX6_tapeNumber_43 (by decide) ?_
  refine lv_iload_n hx hb dX6_tapeNumber_3 rfl (lv_at hl 0 rfl) ?_
  refine lv_if_lt (tgt := 46) hx hb dX6_tapeNumber_4 (by decide) (fun c29 => ?_) (fun c29 => absurd (by decide +kernel) c29)
  have hP9 := hP.sub (ws' := [(h0, .inr (6, [.ref tp, .int 4, .ref nw, .ref dr, .ref rd, .ref sc, .ref sk, .ref fl, .ref ps, .int 0, .int 0, .ref sh])), (tp, .inl (kB, 400, .inl f27))]) [0, 1] rfl
  have hD9 := hD.sub (ws' := [(h0, .inr (6, [.ref tp, .int 4, .ref nw, .ref dr, .ref rd, .ref sc, .ref sk, .ref fl, .ref ps, .int 0, .int 0, .ref sh])), (tp, .inl (kB, 400, .inl f27))]) [0, 1] (by decide) rfl
  have hK9 := hK.sub (tys' := [(kB, .byte)]) [0] rfl
  exact W.vret hx hb hr (fun t ht hW => ⟨⟨(), rfl, trivial, ⟨f27, by rw [ht]; exact hP9, va_K.moved hW.alike hK9, hD9⟩⟩, hS.F ht⟩) hS.2.2 dX6_tapeNumber_46

set_option maxHeartbeats 4000000 in
set_option maxRecDepth 100000 in
theorem c_X6_tapeNumber_4 (l : Launch) (dC : Nat → ClassId) (dI : Nat → Nat → Nat) (h0 tp nw dr rd sc sk fl ps sh : Nat) (kB : ClassId) (sz : Nat) (f : Nat → Int32) (p0 : Int32) : Met l yX6_tapeNumber (.code yX6_tapeNumber cX6_tapeNumber 3 none :: pw) ({ frames := 0, cells := 0, slots := 0, locals := 0 }) (pc (dC, dI) [.ref h0, .int p0] sz [(h0, .inr (6, [.ref tp, .int 4, .ref nw, .ref dr, .ref rd, .ref sc, .ref sk, .ref fl, .ref ps, .int 0, .int 0, .ref sh])), (tp, .inl (kB, 400, .inl f))] [(kB, .byte)]) (va_Qv (fun (_ : Unit) => True) (fun _ t => ∃ (g : Nat → Int32), wB (dC, dI) [(h0, .inr (6, [.ref tp, .int 8, .ref nw, .ref dr, .ref rd, .ref sc, .ref sk, .ref fl, .ref ps, .int 0, .int 0, .ref sh])), (tp, .inl (kB, 400, .inl g))] [(kB, .byte)] (va_A [(h0, .inr (6, [.ref tp, .int 4, .ref nw, .ref dr, .ref rd, .ref sc, .ref sk, .ref fl, .ref ps, .int 0, .int 0, .ref sh])), (tp, .inl (kB, 400, .inl f))] sz) t) (va_A [(h0, .inr (6, [.ref tp, .int 4, .ref nw, .ref dr, .ref rd, .ref sc, .ref sk, .ref fl, .ref ps, .int 0, .int 0, .ref sh])), (tp, .inl (kB, 400, .inl f))] sz)) 0 0 (va_A [(h0, .inr (6, [.ref tp, .int 4, .ref nw, .ref dr, .ref rd, .ref sc, .ref sk, .ref fl, .ref ps, .int 0, .int 0, .ref sh])), (tp, .inl (kB, 400, .inl f))] sz) := by
  refine Met.ofW (cc := cX6_tapeNumber) (maxL := 3) (ret := none) (by decide +kernel) rfl ?_
  intro p e s m args below meth c s₁ B hml hv
  obtain ⟨rfl, hsz, hP, hK, hD0, hN⟩ := hv
  have hx := B.exec
  have hb := B.bytes
  have hr := B.returns
  have hts := fun w (h : w ∈ pw) => atoms_spec (ws := Cond.code yX6_tapeNumber cX6_tapeNumber 3 none :: pw) B.pre w (List.mem_cons_of_mem _ h)
  have hown : s.vm.findClass RX6 = some m.cls := findClass_of_methodNamed B.named
  have hlocks := B.notSynchronized
  subst hsz
  have hD := hD0.self (sz := s.heap.size)
  generalize hAe : va_A [(h0, .inr (6, [.ref tp, .int 4, .ref nw, .ref dr, .ref rd, .ref sc, .ref sk, .ref fl, .ref ps, .int 0, .int 0, .ref sh])), (tp, .inl (kB, 400, .inl f))] s.heap.size = A at hD ⊢
  have hA : ∀ q : Nat, s.heap.size ≤ q → A q := fun q h => by rw [← hAe]; exact Or.inr h
  obtain ⟨H, hHe⟩ : ∃ H : Heap, H = s.heap := ⟨_, rfl⟩
  have hS : va_S A s.heap H [] := by rw [hHe]; exact va_S.rf
  rw [← hHe] at hP
  have hl := lv_entry ([.ref h0, .int p0]) (n := 3) (Nat.le_of_ble_eq_true rfl)
  rw [lg_entry_eq]
  generalize (lg_sl ([.ref h0, .int p0]) ++ List.replicate (3 - (lg_sl ([.ref h0, .int p0])).length) Slot.unset).toArray = ls at hl ⊢
  have hl : lv_has ls 3 [(0, .ref h0), (1, .int p0)] := hl
  rw [← hHe]
  refine lv_bipush (v := 24) hx hb dX6_tapeNumber_0 (by decide +kernel) ?_
  refine lv_istore_n (lv' := [(2, .int 24), (0, .ref h0), (1, .int p0)]) hx hb dX6_tapeNumber_2 rfl hl (by decide) rfl (fun ls hl => ?_)
  refine lv_iload_n hx hb dX6_tapeNumber_3 rfl (lv_at hl 0 rfl) ?_
  refine lv_if_lt (tgt := 46) hx hb dX6_tapeNumber_4 (by decide) (fun c1 => absurd c1 (by decide +kernel)) (fun c1 => ?_)
  refine lv_aload_n hx hb dX6_tapeNumber_7 rfl (lv_at hl 1 rfl) ?_
  refine va_get (D := (dC, dI)) (ci := 6) (v := .int 4) (C := RX6) (T := TX6) (N := 12) hx hb hts inX6 hown hK hP 0 rfl rfl 1 (by decide) (hts _ pq350) (fun _ h9 => h9) rfl dX6_tapeNumber_8 ?_
  refine lv_sipush (v := 400) hx hb dX6_tapeNumber_11 (by decide +kernel) ?_
  refine lv_icmp_ge (tgt := 46) hx hb dX6_tapeNumber_14 (by decide) (fun c2 => absurd c2 (by decide +kernel)) (fun c2 => ?_)
  refine lv_aload_n hx hb dX6_tapeNumber_17 rfl (lv_at hl 1 rfl) ?_
  refine va_get (D := (dC, dI)) (ci := 6) (v := .ref tp) (C := RX6) (T := TX6) (N := 12) hx hb hts inX6 hown hK hP 0 rfl rfl 0 (by decide) (hts _ pq349) (fun _ h9 => h9) rfl dX6_tapeNumber_18 ?_
  refine lv_aload_n hx hb dX6_tapeNumber_21 rfl (lv_at hl 1 rfl) ?_
  refine va_get (D := (dC, dI)) (ci := 6) (v := .int 4) (C := RX6) (T := TX6) (N := 12) hx hb hts inX6 hown hK hP 0 rfl rfl 1 (by decide) (hts _ pq350) (fun _ h9 => h9) rfl dX6_tapeNumber_22 ?_
  refine lv_iload_n hx hb dX6_tapeNumber_25 rfl (lv_at hl 2 rfl) ?_
  refine lv_iload_n hx hb dX6_tapeNumber_26 rfl (lv_at hl 0 rfl) ?_
  refine lv_ishr hx hb dX6_tapeNumber_27 ?_
  refine lv_topi (fun z3 ez3 => ?_)
  refine lv_i2b hx hb dX6_tapeNumber_28 rfl ?_
  refine lv_topi (fun z5 ez5 => ?_)
  refine va_bast hx hb hK hP hD hS 1 0 rfl rfl (in_d (by decide +kernel)) dX6_tapeNumber_29 (fun H locs hP hD hS => ?_)
  obtain ⟨f6, hP, hD⟩ : ∃ f6 : Nat → Int32, va_P (dC, dI) vwCl [(h0, .inr (6, [.ref tp, .int 4, .ref nw, .ref dr, .ref rd, .ref sc, .ref sk, .ref fl, .ref ps, .int 0, .int 0, .ref sh])), (tp, .inl (kB, 400, .inl f6))] H ∧ va_D A [(h0, .inr (6, [.ref tp, .int 4, .ref nw, .ref dr, .ref rd, .ref sc, .ref sk, .ref fl, .ref ps, .int 0, .int 0, .ref sh])), (tp, .inl (kB, 400, .inl f6))] := ⟨_, hP, hD⟩
  refine lv_aload_n hx hb dX6_tapeNumber_30 rfl (lv_at hl 1 rfl) ?_
  refine lv_dup hx hb dX6_tapeNumber_31 rfl ?_
  refine va_get (D := (dC, dI)) (ci := 6) (v := .int 4) (C := RX6) (T := TX6) (N := 12) hx hb hts inX6 hown hK hP 0 rfl rfl 1 (by decide) (hts _ pq350) (fun _ h9 => h9) rfl dX6_tapeNumber_32 ?_
  refine lv_iconst (v := 1) hx hb dX6_tapeNumber_35 (by decide +kernel) ?_
  refine lv_iadd hx hb dX6_tapeNumber_36 ?_
  refine lv_topi (fun z7 ez7 => ?_)
  obtain rfl : z7 = 5 := ez7.trans (by decide +kernel)
  refine va_put (D := (dC, dI)) (ci := 6) (v := .int 5) (ty := tyX6 1) (C := RX6) (T := TX6) (N := 12) hx hb hts inX6 tyX6 tyX6_ok nmX6 hown hK hP hD hS 0 rfl rfl 1 (by decide) (hts _ pq350) (fun _ h9 => h9) rfl (by decide +kernel) rfl rfl (Nat.le_of_ble_eq_true rfl) dX6_tapeNumber_37 (fun H locs hP hD hS => ?_)
  have hP : va_P (dC, dI) vwCl [(h0, .inr (6, [.ref tp, .int 5, .ref nw, .ref dr, .ref rd, .ref sc, .ref sk, .ref fl, .ref ps, .int 0, .int 0, .ref sh])), (tp, .inl (kB, 400, .inl f6))] H := hP
  have hD : va_D A [(h0, .inr (6, [.ref tp, .int 5, .ref nw, .ref dr, .ref rd, .ref sc, .ref sk, .ref fl, .ref ps, .int 0, .int 0, .ref sh])), (tp, .inl (kB, 400, .inl f6))] := hD
  refine lv_iinc (v := 16) (lv' := [(2, .int 16), (0, .ref h0), (1, .int p0)]) hx hb dX6_tapeNumber_40 hl (k := 0) rfl (by decide +kernel) (by decide) rfl (fun ls hl => ?_)
  refine lv_goto (tgt := 3) hx hb dX6_tapeNumber_43 (by decide) ?_
  refine lv_iload_n hx hb dX6_tapeNumber_3 rfl (lv_at hl 0 rfl) ?_
  refine lv_if_lt (tgt := 46) hx hb dX6_tapeNumber_4 (by decide) (fun c8 => absurd c8 (by decide +kernel)) (fun c8 => ?_)
  refine lv_aload_n hx hb dX6_tapeNumber_7 rfl (lv_at hl 1 rfl) ?_
  refine va_get (D := (dC, dI)) (ci := 6) (v := .int 5) (C := RX6) (T := TX6) (N := 12) hx hb hts inX6 hown hK hP 0 rfl rfl 1 (by decide) (hts _ pq350) (fun _ h9 => h9) rfl dX6_tapeNumber_8 ?_
  refine lv_sipush (v := 400) hx hb dX6_tapeNumber_11 (by decide +kernel) ?_
  refine lv_icmp_ge (tgt := 46) hx hb dX6_tapeNumber_14 (by decide) (fun c9 => absurd c9 (by decide +kernel)) (fun c9 => ?_)
  refine lv_aload_n hx hb dX6_tapeNumber_17 rfl (lv_at hl 1 rfl) ?_
  refine va_get (D := (dC, dI)) (ci := 6) (v := .ref tp) (C := RX6) (T := TX6) (N := 12) hx hb hts inX6 hown hK hP 0 rfl rfl 0 (by decide) (hts _ pq349) (fun _ h9 => h9) rfl dX6_tapeNumber_18 ?_
  refine lv_aload_n hx hb dX6_tapeNumber_21 rfl (lv_at hl 1 rfl) ?_
  refine va_get (D := (dC, dI)) (ci := 6) (v := .int 5) (C := RX6) (T := TX6) (N := 12) hx hb hts inX6 hown hK hP 0 rfl rfl 1 (by decide) (hts _ pq350) (fun _ h9 => h9) rfl dX6_tapeNumber_22 ?_
  refine lv_iload_n hx hb dX6_tapeNumber_25 rfl (lv_at hl 2 rfl) ?_
  refine lv_iload_n hx hb dX6_tapeNumber_26 rfl (lv_at hl 0 rfl) ?_
  refine lv_ishr hx hb dX6_tapeNumber_27 ?_
  refine lv_topi (fun z10 ez10 => ?_)
  refine lv_i2b hx hb dX6_tapeNumber_28 rfl ?_
  refine lv_topi (fun z12 ez12 => ?_)
  refine va_bast hx hb hK hP hD hS 1 0 rfl rfl (in_d (by decide +kernel)) dX6_tapeNumber_29 (fun H locs hP hD hS => ?_)
  obtain ⟨f13, hP, hD⟩ : ∃ f13 : Nat → Int32, va_P (dC, dI) vwCl [(h0, .inr (6, [.ref tp, .int 5, .ref nw, .ref dr, .ref rd, .ref sc, .ref sk, .ref fl, .ref ps, .int 0, .int 0, .ref sh])), (tp, .inl (kB, 400, .inl f13))] H ∧ va_D A [(h0, .inr (6, [.ref tp, .int 5, .ref nw, .ref dr, .ref rd, .ref sc, .ref sk, .ref fl, .ref ps, .int 0, .int 0, .ref sh])), (tp, .inl (kB, 400, .inl f13))] := ⟨_, hP, hD⟩
  refine lv_aload_n hx hb dX6_tapeNumber_30 rfl (lv_at hl 1 rfl) ?_
  refine lv_dup hx hb dX6_tapeNumber_31 rfl ?_
  refine va_get (D := (dC, dI)) (ci := 6) (v := .int 5) (C := RX6) (T := TX6) (N := 12) hx hb hts inX6 hown hK hP 0 rfl rfl 1 (by decide) (hts _ pq350) (fun _ h9 => h9) rfl dX6_tapeNumber_32 ?_
  refine lv_iconst (v := 1) hx hb dX6_tapeNumber_35 (by decide +kernel) ?_
  refine lv_iadd hx hb dX6_tapeNumber_36 ?_
  refine lv_topi (fun z14 ez14 => ?_)
  obtain rfl : z14 = 6 := ez14.trans (by decide +kernel)
  refine va_put (D := (dC, dI)) (ci := 6) (v := .int 6) (ty := tyX6 1) (C := RX6) (T := TX6) (N := 12) hx hb hts inX6 tyX6 tyX6_ok nmX6 hown hK hP hD hS 0 rfl rfl 1 (by decide) (hts _ pq350) (fun _ h9 => h9) rfl (by decide +kernel) rfl rfl (Nat.le_of_ble_eq_true rfl) dX6_tapeNumber_37 (fun H locs hP hD hS => ?_)
  have hP : va_P (dC, dI) vwCl [(h0, .inr (6, [.ref tp, .int 6, .ref nw, .ref dr, .ref rd, .ref sc, .ref sk, .ref fl, .ref ps, .int 0, .int 0, .ref sh])), (tp, .inl (kB, 400, .inl f13))] H := hP
  have hD : va_D A [(h0, .inr (6, [.ref tp, .int 6, .ref nw, .ref dr, .ref rd, .ref sc, .ref sk, .ref fl, .ref ps, .int 0, .int 0, .ref sh])), (tp, .inl (kB, 400, .inl f13))] := hD
  refine lv_iinc (v := 8) (lv' := [(2, .int 8), (0, .ref h0), (1, .int p0)]) hx hb dX6_tapeNumber_40 hl (k := 0) rfl (by decide +kernel) (by decide) rfl (fun ls hl => ?_)
  refine lv_goto (tgt := 3) hx hb dX6_tapeNumber_43 (by decide) ?_
  refine lv_iload_n hx hb dX6_tapeNumber_3 rfl (lv_at hl 0 rfl) ?_
  refine lv_if_lt (tgt := 46) hx hb dX6_tapeNumber_4 (by decide) (fun c15 => absurd c15 (by decide +kernel)) (fun c15 => ?_)
  refine lv_aload_n hx hb dX6_tapeNumber_7 rfl (lv_at hl 1 rfl) ?_
  refine va_get (D := (dC, dI)) (ci := 6) (v := .int 6) (C := RX6) (T := TX6) (N := 12) hx hb hts inX6 hown hK hP 0 rfl rfl 1 (by decide) (hts _ pq350) (fun _ h9 => h9) rfl dX6_tapeNumber_8 ?_
  refine lv_sipush (v := 400) hx hb dX6_tapeNumber_11 (by decide +kernel) ?_
  refine lv_icmp_ge (tgt := 46) hx hb dX6_tapeNumber_14 (by decide) (fun c16 => absurd c16 (by decide +kernel)) (fun c16 => ?_)
  refine lv_aload_n hx hb dX6_tapeNumber_17 rfl (lv_at hl 1 rfl) ?_
  refine va_get (D := (dC, dI)) (ci := 6) (v := .ref tp) (C := RX6) (T := TX6) (N := 12) hx hb hts inX6 hown hK hP 0 rfl rfl 0 (by decide) (hts _ pq349) (fun _ h9 => h9) rfl dX6_tapeNumber_18 ?_
  refine lv_aload_n hx hb dX6_tapeNumber_21 rfl (lv_at hl 1 rfl) ?_
  refine va_get (D := (dC, dI)) (ci := 6) (v := .int 6) (C := RX6) (T := TX6) (N := 12) hx hb hts inX6 hown hK hP 0 rfl rfl 1 (by decide) (hts _ pq350) (fun _ h9 => h9) rfl dX6_tapeNumber_22 ?_
  refine lv_iload_n hx hb dX6_tapeNumber_25 rfl (lv_at hl 2 rfl) ?_
  refine lv_iload_n hx hb dX6_tapeNumber_26 rfl (lv_at hl 0 rfl) ?_
  refine lv_ishr hx hb dX6_tapeNumber_27 ?_
  refine lv_topi (fun z17 ez17 => ?_)
  refine lv_i2b hx hb dX6_tapeNumber_28 rfl ?_
  refine lv_topi (fun z19 ez19 => ?_)
  refine va_bast hx hb hK hP hD hS 1 0 rfl rfl (in_d (by decide +kernel)) dX6_tapeNumber_29 (fun H locs hP hD hS => ?_)
  obtain ⟨f20, hP, hD⟩ : ∃ f20 : Nat → Int32, va_P (dC, dI) vwCl [(h0, .inr (6, [.ref tp, .int 6, .ref nw, .ref dr, .ref rd, .ref sc, .ref sk, .ref fl, .ref ps, .int 0, .int 0, .ref sh])), (tp, .inl (kB, 400, .inl f20))] H ∧ va_D A [(h0, .inr (6, [.ref tp, .int 6, .ref nw, .ref dr, .ref rd, .ref sc, .ref sk, .ref fl, .ref ps, .int 0, .int 0, .ref sh])), (tp, .inl (kB, 400, .inl f20))] := ⟨_, hP, hD⟩
  refine lv_aload_n hx hb dX6_tapeNumber_30 rfl (lv_at hl 1 rfl) ?_
  refine lv_dup hx hb dX6_tapeNumber_31 rfl ?_
  refine va_get (D := (dC, dI)) (ci := 6) (v := .int 6) (C := RX6) (T := TX6) (N := 12) hx hb hts inX6 hown hK hP 0 rfl rfl 1 (by decide) (hts _ pq350) (fun _ h9 => h9) rfl dX6_tapeNumber_32 ?_
  refine lv_iconst (v := 1) hx hb dX6_tapeNumber_35 (by decide +kernel) ?_
  refine lv_iadd hx hb dX6_tapeNumber_36 ?_
  refine lv_topi (fun z21 ez21 => ?_)
  obtain rfl : z21 = 7 := ez21.trans (by decide +kernel)
  refine va_put (D := (dC, dI)) (ci := 6) (v := .int 7) (ty := tyX6 1) (C := RX6) (T := TX6) (N := 12) hx hb hts inX6 tyX6 tyX6_ok nmX6 hown hK hP hD hS 0 rfl rfl 1 (by decide) (hts _ pq350) (fun _ h9 => h9) rfl (by decide +kernel) rfl rfl (Nat.le_of_ble_eq_true rfl) dX6_tapeNumber_37 (fun H locs hP hD hS => ?_)
  have hP : va_P (dC, dI) vwCl [(h0, .inr (6, [.ref tp, .int 7, .ref nw, .ref dr, .ref rd, .ref sc, .ref sk, .ref fl, .ref ps, .int 0, .int 0, .ref sh])), (tp, .inl (kB, 400, .inl f20))] H := hP
  have hD : va_D A [(h0, .inr (6, [.ref tp, .int 7, .ref nw, .ref dr, .ref rd, .ref sc, .ref sk, .ref fl, .ref ps, .int 0, .int 0, .ref sh])), (tp, .inl (kB, 400, .inl f20))] := hD
  refine lv_iinc (v := 0) (lv' := [(2, .int 0), (0, .ref h0), (1, .int p0)]) hx hb dX6_tapeNumber_40 hl (k := 0) rfl (by decide +kernel) (by decide) rfl (fun ls hl => ?_)
  refine lv_goto (tgt := 3) hx hb dX6_tapeNumber_43 (by decide) ?_
  refine lv_iload_n hx hb dX6_tapeNumber_3 rfl (lv_at hl 0 rfl) ?_
  refine lv_if_lt (tgt := 46) hx hb dX6_tapeNumber_4 (by decide) (fun c22 => absurd c22 (by decide +kernel)) (fun c22 => ?_)
  refine lv_aload_n hx hb dX6_tapeNumber_7 rfl (lv_at hl 1 rfl) ?_
  refine va_get (D := (dC, dI)) (ci := 6) (v := .int 7) (C := RX6) (T := TX6) (N := 12) hx hb hts inX6 hown hK hP 0 rfl rfl 1 (by decide) (hts _ pq350) (fun _ h9 => h9) rfl dX6_tapeNumber_8 ?_
  refine lv_sipush (v := 400) hx hb dX6_tapeNumber_11 (by decide +kernel) ?_
  refine lv_icmp_ge (tgt := 46) hx hb dX6_tapeNumber_14 (by decide) (fun c23 => absurd c23 (by decide +kernel)) (fun c23 => ?_)
  refine lv_aload_n hx hb dX6_tapeNumber_17 rfl (lv_at hl 1 rfl) ?_
  refine va_get (D := (dC, dI)) (ci := 6) (v := .ref tp) (C := RX6) (T := TX6) (N := 12) hx hb hts inX6 hown hK hP 0 rfl rfl 0 (by decide) (hts _ pq349) (fun _ h9 => h9) rfl dX6_tapeNumber_18 ?_
  refine lv_aload_n hx hb dX6_tapeNumber_21 rfl (lv_at hl 1 rfl) ?_
  refine va_get (D := (dC, dI)) (ci := 6) (v := .int 7) (C := RX6) (T := TX6) (N := 12) hx hb hts inX6 hown hK hP 0 rfl rfl 1 (by decide) (hts _ pq350) (fun _ h9 => h9) rfl dX6_tapeNumber_22 ?_
  refine lv_iload_n hx hb dX6_tapeNumber_25 rfl (lv_at hl 2 rfl) ?_
  refine lv_iload_n hx hb dX6_tapeNumber_26 rfl (lv_at hl 0 rfl) ?_
  refine lv_ishr hx hb dX6_tapeNumber_27 ?_
  refine lv_topi (fun z24 ez24 => ?_)
  refine lv_i2b hx hb dX6_tapeNumber_28 rfl ?_
  refine lv_topi (fun z26 ez26 => ?_)
  refine va_bast hx hb hK hP hD hS 1 0 rfl rfl (in_d (by decide +kernel)) dX6_tapeNumber_29 (fun H locs hP hD hS => ?_)
  obtain ⟨f27, hP, hD⟩ : ∃ f27 : Nat → Int32, va_P (dC, dI) vwCl [(h0, .inr (6, [.ref tp, .int 7, .ref nw, .ref dr, .ref rd, .ref sc, .ref sk, .ref fl, .ref ps, .int 0, .int 0, .ref sh])), (tp, .inl (kB, 400, .inl f27))] H ∧ va_D A [(h0, .inr (6, [.ref tp, .int 7, .ref nw, .ref dr, .ref rd, .ref sc, .ref sk, .ref fl, .ref ps, .int 0, .int 0, .ref sh])), (tp, .inl (kB, 400, .inl f27))] := ⟨_, hP, hD⟩
  refine lv_aload_n hx hb dX6_tapeNumber_30 rfl (lv_at hl 1 rfl) ?_
  refine lv_dup hx hb dX6_tapeNumber_31 rfl ?_
  refine va_get (D := (dC, dI)) (ci := 6) (v := .int 7) (C := RX6) (T := TX6) (N := 12) hx hb hts inX6 hown hK hP 0 rfl rfl 1 (by decide) (hts _ pq350) (fun _ h9 => h9) rfl dX6_tapeNumber_32 ?_
  refine lv_iconst (v := 1) hx hb dX6_tapeNumber_35 (by decide +kernel) ?_
  refine lv_iadd hx hb dX6_tapeNumber_36 ?_
  refine lv_topi (fun z28 ez28 => ?_)
  obtain rfl : z28 = 8 := ez28.trans (by decide +kernel)
  refine va_put (D := (dC, dI)) (ci := 6) (v := .int 8) (ty := tyX6 1) (C := RX6) (T := TX6) (N := 12) hx hb hts inX6 tyX6 tyX6_ok nmX6 hown hK hP hD hS 0 rfl rfl 1 (by decide) (hts _ pq350) (fun _ h9 => h9) rfl (by decide +kernel) rfl rfl (Nat.le_of_ble_eq_true rfl) dX6_tapeNumber_37 (fun H locs hP hD hS => ?_)
  have hP : va_P (dC, dI) vwCl [(h0, .inr (6, [.ref tp, .int 8, .ref nw, .ref dr, .ref rd, .ref sc, .ref sk, .ref fl, .ref ps, .int 0, .int 0, .ref sh])), (tp, .inl (kB, 400, .inl f27))] H := hP
  have hD : va_D A [(h0, .inr (6, [.ref tp, .int 8, .ref nw, .ref dr, .ref rd, .ref sc, .ref sk, .ref fl, .ref ps, .int 0, .int 0, .ref sh])), (tp, .inl (kB, 400, .inl f27))] := hD
  refine lv_iinc (v := (-8)) (lv' := [(2, .int (-8)), (0, .ref h0), (1, .int p0)]) hx hb dX6_tapeNumber_40 hl (k := 0) rfl (by decide +kernel) (by decide) rfl (fun ls hl => ?_)
  refine lv_goto (tgt := 3) hx hb dX6_tapeNumber_43 (by decide) ?_
  refine lv_iload_n hx hb dX6_tapeNumber_3 rfl (lv_at hl 0 rfl) ?_
  refine lv_if_lt (tgt := 46) hx hb dX6_tapeNumber_4 (by decide) (fun c29 => ?_) (fun c29 => absurd (by decide +kernel) c29)
  have hP9 := hP.sub (ws' := [(h0, .inr (6, [.ref tp, .int 8, .ref nw, .ref dr, .ref rd, .ref sc, .ref sk, .ref fl, .ref ps, .int 0, .int 0, .ref sh])), (tp, .inl (kB, 400, .inl f27))]) [0, 1] rfl
  have hD9 := hD.sub (ws' := [(h0, .inr (6, [.ref tp, .int 8, .ref nw, .ref dr, .ref rd, .ref sc, .ref sk, .ref fl, .ref ps, .int 0, .int 0, .ref sh])), (tp, .inl (kB, 400, .inl f27))]) [0, 1] (by decide) rfl
  have hK9 := hK.sub (tys' := [(kB, .byte)]) [0] rfl
  exact W.vret hx hb hr (fun t ht hW => ⟨⟨(), rfl, trivial, ⟨f27, by rw [ht]; exact hP9, va_K.moved hW.alike hK9, hD9⟩⟩, hS.F ht⟩) hS.2.2 dX6_tapeNumber_46

set_option maxHeartbeats 4000000 in
set_option maxRecDepth 100000 in
theorem c_X6_tapeNumber_8 (l : Launch) (dC : Nat → ClassId) (dI : Nat → Nat → Nat) (h0 tp nw dr rd sc sk fl ps sh : Nat) (kB : ClassId) (sz : Nat) (f : Nat → Int32) (p0 : Int32) : Met l yX6_tapeNumber (.code yX6_tapeNumber cX6_tapeNumber 3 none :: pw) ({ frames := 0, cells := 0, slots := 0, locals := 0 }) (pc (dC, dI) [.ref h0, .int p0] sz [(h0, .inr (6, [.ref tp, .int 8, .ref nw, .ref dr, .ref rd, .ref sc, .ref sk, .ref fl, .ref ps, .int 0, .int 0, .ref sh])), (tp, .inl (kB, 400, .inl f))] [(kB, .byte)]) (va_Qv (fun (_ : Unit) => True) (fun _ t => ∃ (g : Nat → Int32), wB (dC, dI) [(h0, .inr (6, [.ref tp, .int 12, .ref nw, .ref dr, .ref rd, .ref sc, .ref sk, .ref fl, .ref ps, .int 0, .int 0, .ref sh])), (tp, .inl (kB, 400, .inl g))] [(kB, .byte)] (va_A [(h0, .inr (6, [.ref tp, .int 8, .ref nw, .ref dr, .ref rd, .ref sc, .ref sk, .ref fl, .ref ps, .int 0, .int 0, .ref sh])), (tp, .inl (kB, 400, .inl f))] sz) t) (va_A [(h0, .inr (6, [.ref tp, .int 8, .ref nw, .ref dr, .ref rd, .ref sc, .ref sk, .ref fl, .ref ps, .int 0, .int 0, .ref sh])), (tp, .inl (kB, 400, .inl f))] sz)) 0 0 (va_A [(h0, .inr (6, [.ref tp, .int 8, .ref nw, .ref dr, .ref rd, .ref sc, .ref sk, .ref fl, .ref ps, .int 0, .int 0, .ref sh])), (tp, .inl (kB, 400, .inl f))] sz) := by
  refine Met.ofW (cc := cX6_tapeNumber) (maxL := 3) (ret := none) (by decide +kernel) rfl ?_
  intro p e s m args below meth c s₁ B hml hv
  obtain ⟨rfl, hsz, hP, hK, hD0, hN⟩ := hv
  have hx := B.exec
  have hb := B.bytes
  have hr := B.returns
  have hts := fun w (h : w ∈ pw) => atoms_spec (ws := Cond.code yX6_tapeNumber cX6_tapeNumber 3 none :: pw) B.pre w (List.mem_cons_of_mem _ h)
  have hown : s.vm.findClass RX6 = some m.cls := findClass_of_methodNamed B.named
  have hlocks := B.notSynchronized
  subst hsz
  have hD := hD0.self (sz := s.heap.size)
  generalize hAe : va_A [(h0, .inr (6, [.ref tp, .int 8, .ref nw, .ref dr, .ref rd, .ref sc, .ref sk, .ref fl, .ref ps, .int 0, .int 0, .ref sh])), (tp, .inl (kB, 400, .inl f))] s.heap.size = A at hD ⊢
  have hA : ∀ q : Nat, s.heap.size ≤ q → A q := fun q h => by rw [← hAe]; exact Or.inr h
  obtain ⟨H, hHe⟩ : ∃ H : Heap, H = s.heap := ⟨_, rfl⟩
  have hS : va_S A s.heap H [] := by rw [hHe]; exact va_S.rf
  rw [← hHe] at hP
  have hl := lv_entry ([.ref h0, .int p0]) (n := 3) (Nat.le_of_ble_eq_true rfl)
  rw [lg_entry_eq]
  generalize (lg_sl ([.ref h0, .int p0]) ++ List.replicate (3 - (lg_sl ([.ref h0, .int p0])).length) Slot.unset).toArray = ls at hl ⊢
  have hl : lv_has ls 3 [(0, .ref h0), (1, .int p0)] := hl
  rw [← hHe]
  refine lv_bipush (v := 24) hx hb dX6_tapeNumber_0 (by decide +kernel) ?_
  refine lv_istore_n (lv' := [(2, .int 24), (0, .ref h0), (1, .int p0)]) hx hb dX6_tapeNumber_2 rfl hl (by decide) rfl (fun ls hl => ?_)
  refine lv_iload_n hx hb dX6_tapeNumber_3 rfl (lv_at hl 0 rfl) ?_
  refine lv_if_lt (tgt := 46) hx hb dX6_tapeNumber_4 (by decide) (fun c1 => absurd c1 (by decide +kernel)) (fun c1 => ?_)
  refine lv_aload_n hx hb dX6_tapeNumber_7 rfl (lv_at hl 1 rfl) ?_
  refine va_get (D := (dC, dI)) (ci := 6) (v := .int 8) (C := RX6) (T := TX6) (N := 12) hx hb hts inX6 hown hK hP 0 rfl rfl 1 (by decide) (hts _ pq350) (fun _ h9 => h9) rfl dX6_tapeNumber_8 ?_
  refine lv_sipush (v := 400) hx hb dX6_tapeNumber_11 (by decide +kernel) ?_
  refine lv_icmp_ge (tgt := 46) hx hb dX6_tapeNumber_14 (by decide) (fun c2 => absurd c2 (by decide +kernel)) (fun c2 => ?_)
  refine lv_aload_n hx hb dX6_tapeNumber_17 rfl (lv_at hl 1 rfl) ?_
  refine va_get (D := (dC, dI)) (ci := 6) (v := .ref tp) (C := RX6) (T := TX6) (N := 12) hx hb hts inX6 hown hK hP 0 rfl rfl 0 (by decide) (hts _ pq349) (fun _ h9 => h9) rfl dX6_tapeNumber_18 ?_
  refine lv_aload_n hx hb dX6_tapeNumber_21 rfl (lv_at hl 1 rfl) ?_
  refine va_get (D := (dC, dI)) (ci := 6) (v := .int 8) (C := RX6) (T := TX6) (N := 12) hx hb hts inX6 hown hK hP 0 rfl rfl 1 (by decide) (hts _ pq350) (fun _ h9 => h9) rfl dX6_tapeNumber_22 ?_
  refine lv_iload_n hx hb dX6_tapeNumber_25 rfl (lv_at hl 2 rfl) ?_
  refine lv_iload_n hx hb dX6_tapeNumber_26 rfl (lv_at hl 0 rfl) ?_
  refine lv_ishr hx hb dX6_tapeNumber_27 ?_
  refine lv_topi (fun z3 ez3 => ?_)
  refine lv_i2b hx hb dX6_tapeNumber_28 rfl ?_
  refine lv_topi (fun z5 ez5 => ?_)
  refine va_bast hx hb hK hP hD hS 1 0 rfl rfl (in_d (by decide +kernel)) dX6_tapeNumber_29 (fun H locs hP hD hS => ?_)
  obtain ⟨f6, hP, hD⟩ : ∃ f6 : Nat → Int32, va_P (dC, dI) vwCl [(h0, .inr (6, [.ref tp, .int 8, .ref nw, .ref dr, .ref rd, .ref sc, .ref sk, .ref fl, .ref ps, .int 0, .int 0, .ref sh])), (tp, .inl (kB, 400, .inl f6))] H ∧ va_D A [(h0, .inr (6, [.ref tp, .int 8, .ref nw, .ref dr, .ref rd, .ref sc, .ref sk, .ref fl, .ref ps, .int 0, .int 0, .ref sh])), (tp, .inl (kB, 400, .inl f6))] := ⟨_, hP, hD⟩
  refine lv_aload_n hx hb dX6_tapeNumber_30 rfl (lv_at hl 1 rfl) ?_
  refine lv_dup hx hb dX6_tapeNumber_31 rfl ?_
  refine va_get (D := (dC, dI)) (ci := 6) (v := .int 8) (C := RX6) (T := TX6) (N := 12) hx hb hts inX6 hown hK hP 0 rfl rfl 1 (by decide) (hts _ pq350) (fun _ h9 => h9) rfl dX6_tapeNumber_32 ?_
  refine lv_iconst (v := 1) hx hb dX6_tapeNumber_35 (by decide +kernel) ?_
  refine lv_iadd hx hb dX6_tapeNumber_36 ?_
  refine lv_topi (fun z7 ez7 => ?_)
  obtain rfl : z7 = 9 := ez7.trans (by decide +kernel)
  refine va_put (D := (dC, dI)) (ci := 6) (v := .int 9) (ty := tyX6 1) (C := RX6) (T := TX6) (N := 12) hx hb hts inX6 tyX6 tyX6_ok nmX6 hown hK hP hD hS 0 rfl rfl 1 (by decide) (hts _ pq350) (fun _ h9 => h9) rfl (by decide +kernel) rfl rfl (Nat.le_of_ble_eq_true rfl) dX6_tapeNumber_37 (fun H locs hP hD hS => ?_)
  have hP : va_P (dC, dI) vwCl [(h0, .inr (6, [.ref tp, .int 9, .ref nw, .ref dr, .ref rd, .ref sc, .ref sk, .ref fl, .ref ps, .int 0, .int 0, .ref sh])), (tp, .inl (kB, 400, .inl f6))] H := hP
  have hD : va_D A [(h0, .inr (6, [.ref tp, .int 9, .ref nw, .ref dr, .ref rd, .ref sc, .ref sk, .ref fl, .ref ps, .int 0, .int 0, .ref sh])), (tp, .inl (kB, 400, .inl f6))] := hD
  refine lv_iinc (v := 16) (lv' := [(2, .int 16), (0, .ref h0), (1, .int p0)]) hx hb dX6_tapeNumber_40 hl (k := 0) rfl (by decide +kernel) (by decide) rfl (fun ls hl => ?_)
  refine lv_goto (tgt := 3) hx hb dX6_tapeNumber_43 (by decide) ?_
  refine lv_iload_n hx hb dX6_tapeNumber_3 rfl (lv_at hl 0 rfl) ?_
  refine lv_if_lt (tgt := 46) hx hb dX6_tapeNumber_4 (by decide) (fun c8 => absurd c8 (by decide +kernel)) (fun c8 => ?_)
  refine lv_aload_n hx hb dX6_tapeNumber_7 rfl (lv_at hl 1 rfl) ?_
  refine va_get (D := (dC, dI)) (ci := 6) (v := .int 9) (C := RX6) (T := TX6) (N := 12) hx hb hts inX6 hown hK hP 0 rfl rfl 1 (by decide) (hts _ pq350) (fun _ h9 => h9) rfl dX6_tapeNumber_8 ?_
  refine lv_sipush (v := 400) hx hb dX6_tapeNumber_11 (by decide +kernel) ?_
  refine lv_icmp_ge (tgt := 46) hx hb dX6_tapeNumber_14 (by decide) (fun c9 => absurd c9 (by decide +kernel)) (fun c9 => ?_)
  refine lv_aload_n hx hb dX6_tapeNumber_17 rfl (lv_at hl 1 rfl) ?_
  refine va_get (D := (dC, dI)) (ci := 6) (v := .ref tp) (C := RX6) (T := TX6) (N := 12) hx hb hts inX6 hown hK hP 0 rfl rfl 0 (by decide) (hts _ pq349) (fun _ h9 => h9) rfl dX6_tapeNumber_18 ?_
  refine lv_aload_n hx hb dX6_tapeNumber_21 rfl (lv_at hl 1 rfl) ?_
  refine va_get (D := (dC, dI)) (ci := 6) (v := .int 9) (C := RX6) (T := TX6) (N := 12) hx hb hts inX6 hown hK hP 0 rfl rfl 1 (by decide) (hts _ pq350) (fun _ h9 => h9) rfl dX6_tapeNumber_22 ?_
  refine lv_iload_n hx hb dX6_tapeNumber_25 rfl (lv_at hl 2 rfl) ?_
  refine lv_iload_n hx hb dX6_tapeNumber_26 rfl (lv_at hl 0 rfl) ?_
  refine lv_ishr hx hb dX6_tapeNumber_27 ?_
  refine lv_topi (fun z10 ez10 => ?_)
  refine lv_i2b hx hb dX6_tapeNumber_28 rfl ?_
  refine lv_topi (fun z12 ez12 => ?_)
  refine va_bast hx hb hK hP hD hS 1 0 rfl rfl (in_d (by decide +kernel)) dX6_tapeNumber_29 (fun H locs hP hD hS => ?_)
  obtain ⟨f13, hP, hD⟩ : ∃ f13 : Nat → Int32, va_P (dC, dI) vwCl [(h0, .inr (6, [.ref tp, .int 9, .ref nw, .ref dr, .ref rd, .ref sc, .ref sk, .ref fl, .ref ps, .int 0, .int 0, .ref sh])), (tp, .inl (kB, 400, .inl f13))] H ∧ va_D A [(h0, .inr (6, [.ref tp, .int 9, .ref nw, .ref dr, .ref rd, .ref sc, .ref sk, .ref fl, .ref ps, .int 0, .int 0, .ref sh])), (tp, .inl (kB, 400, .inl f13))] := ⟨_, hP, hD⟩
  refine lv_aload_n hx hb dX6_tapeNumber_30 rfl (lv_at hl 1 rfl) ?_
  refine lv_dup hx hb dX6_tapeNumber_31 rfl ?_
  refine va_get (D := (dC, dI)) (ci := 6) (v := .int 9) (C := RX6) (T := TX6) (N := 12) hx hb hts inX6 hown hK hP 0 rfl rfl 1 (by decide) (hts _ pq350) (fun _ h9 => h9) rfl dX6_tapeNumber_32 ?_
  refine lv_iconst (v := 1) hx hb dX6_tapeNumber_35 (by decide +kernel) ?_
  refine lv_iadd hx hb dX6_tapeNumber_36 ?_
  refine lv_topi (fun z14 ez14 => ?_)
  obtain rfl : z14 = 10 := ez14.trans (by decide +kernel)
  refine va_put (D := (dC, dI)) (ci := 6) (v := .int 10) (ty := tyX6 1) (C := RX6) (T := TX6) (N := 12) hx hb hts inX6 tyX6 tyX6_ok nmX6 hown hK hP hD hS 0 rfl rfl 1 (by decide) (hts _ pq350) (fun _ h9 => h9) rfl (by decide +kernel) rfl rfl (Nat.le_of_ble_eq_true rfl) dX6_tapeNumber_37 (fun H locs hP hD hS => ?_)
  have hP : va_P (dC, dI) vwCl [(h0, .inr (6, [.ref tp, .int 10, .ref nw, .ref dr, .ref rd, .ref sc, .ref sk, .ref fl, .ref ps, .int 0, .int 0, .ref sh])), (tp, .inl (kB, 400, .inl f13))] H := hP
  have hD : va_D A [(h0, .inr (6, [.ref tp, .int 10, .ref nw, .ref dr, .ref rd, .ref sc, .ref sk, .ref fl, .ref ps, .int 0, .int 0, .ref sh])), (tp, .inl (kB, 400, .inl f13))] := hD
  refine lv_iinc (v := 8) (lv' := [(2, .int 8), (0, .ref h0), (1, .int p0)]) hx hb dX6_tapeNumber_40 hl (k := 0) rfl (by decide +kernel) (by decide) rfl (fun ls hl => ?_)
  refine lv_goto (tgt := 3) hx hb dX6_tapeNumber_43 (by decide) ?_
  refine lv_iload_n hx hb dX6_tapeNumber_3 rfl (lv_at hl 0 rfl) ?_
  refine lv_if_lt (tgt := 46) hx hb dX6_tapeNumber_4 (by decide) (fun c15 => absurd c15 (by decide +kernel)) (fun c15 => ?_)
  refine lv_aload_n hx hb dX6_tapeNumber_7 rfl (lv_at hl 1 rfl) ?_
  refine va_get (D := (dC, dI)) (ci := 6) (v := .int 10) (C := RX6) (T := TX6) (N := 12) hx hb hts inX6 hown hK hP 0 rfl rfl 1 (by decide) (hts _ pq350) (fun _ h9 => h9) rfl dX6_tapeNumber_8 ?_
  refine lv_sipush (v := 400) hx hb dX6_tapeNumber_11 (by decide +kernel) ?_
  refine lv_icmp_ge (tgt := 46) hx hb dX6_tapeNumber_14 (by decide) (fun c16 => absurd c16 (by decide +kernel)) (fun c16 => ?_)
  refine lv_aload_n hx hb dX6_tapeNumber_17 rfl (lv_at hl 1 rfl) ?_
  refine va_get (D := (dC, dI)) (ci := 6) (v := .ref tp) (C := RX6) (T := TX6) (N := 12) hx hb hts inX6 hown hK hP 0 rfl rfl 0 (by decide) (hts _ pq349) (fun _ h9 => h9) rfl dX6_tapeNumber_18 ?_
  refine lv_aload_n hx hb dX6_tapeNumber_21 rfl (lv_at hl 1 rfl) ?_
  refine va_get (D := (dC, dI)) (ci := 6) (v := .int 10) (C := RX6) (T := TX6) (N := 12) hx hb hts inX6 hown hK hP 0 rfl rfl 1 (by decide) (hts _ pq350) (fun _ h9 => h9) rfl dX6_tapeNumber_22 ?_
  refine lv_iload_n hx hb dX6_tapeNumber_25 rfl (lv_at hl 2 rfl) ?_
  refine lv_iload_n hx hb dX6_tapeNumber_26 rfl (lv_at hl 0 rfl) ?_
  refine lv_ishr hx hb dX6_tapeNumber_27 ?_
  refine lv_topi (fun z17 ez17 => ?_)
  refine lv_i2b hx hb dX6_tapeNumber_28 rfl ?_
  refine lv_topi (fun z19 ez19 => ?_)
  refine va_bast hx hb hK hP hD hS 1 0 rfl rfl (in_d (by decide +kernel)) dX6_tapeNumber_29 (fun H locs hP hD hS => ?_)
  obtain ⟨f20, hP, hD⟩ : ∃ f20 : Nat → Int32, va_P (dC, dI) vwCl [(h0, .inr (6, [.ref tp, .int 10, .ref nw, .ref dr, .ref rd, .ref sc, .ref sk, .ref fl, .ref ps, .int 0, .int 0, .ref sh])), (tp, .inl (kB, 400, .inl f20))] H ∧ va_D A [(h0, .inr (6, [.ref tp, .int 10, .ref nw, .ref dr, .ref rd, .ref sc, .ref sk, .ref fl, .ref ps, .int 0, .int 0, .ref sh])), (tp, .inl (kB, 400, .inl f20))] := ⟨_, hP, hD⟩
  refine lv_aload_n hx hb dX6_tapeNumber_30 rfl (lv_at hl 1 rfl) ?_
  refine lv_dup hx hb dX6_tapeNumber_31 rfl ?_
  refine va_get (D := (dC, dI)) (ci := 6) (v := .int 10) (C := RX6) (T := TX6) (N := 12) hx hb hts inX6 hown hK hP 0 rfl rfl 1 (by decide) (hts _ pq350) (fun _ h9 => h9) rfl dX6_tapeNumber_32 ?_
  refine lv_iconst (v := 1) hx hb dX6_tapeNumber_35 (by decide +kernel) ?_
  refine lv_iadd hx hb dX6_tapeNumber_36 ?_
  refine lv_topi (fun z21 ez21 => ?_)
  obtain rfl : z21 = 11 := ez21.trans (by decide +kernel)
  refine va_put (D := (dC, dI)) (ci := 6) (v := .int 11) (ty := tyX6 1) (C := RX6) (T := TX6) (N := 12) hx hb hts inX6 tyX6 tyX6_ok nmX6 hown hK hP hD hS 0 rfl rfl 1 (by decide) (hts _ pq350) (fun _ h9 => h9) rfl (by decide +kernel) rfl rfl (Nat.le_of_ble_eq_true rfl) dX6_tapeNumber_37 (fun H locs hP hD hS => ?_)
  have hP : va_P (dC, dI) vwCl [(h0, .inr (6, [.ref tp, .int 11, .ref nw, .ref dr, .ref rd, .ref sc, .ref sk, .ref fl, .ref ps, .int 0, .int 0, .ref sh])), (tp, .inl (kB, 400, .inl f20))] H := hP
  have hD : va_D A [(h0, .inr (6, [.ref tp, .int 11, .ref nw, .ref dr, .ref rd, .ref sc, .ref sk, .ref fl, .ref ps, .int 0, .int 0, .ref sh])), (tp, .inl (kB, 400, .inl f20))] := hD
  refine lv_iinc (v := 0) (lv' := [(2, .int 0), (0, .ref h0), (1, .int p0)]) hx hb dX6_tapeNumber_40 hl (k := 0) rfl (by decide +kernel) (by decide) rfl (fun ls hl => ?_)
  refine lv_goto (tgt := 3) hx hb dX6_tapeNumber_43 (by decide) ?_
  refine lv_iload_n hx hb dX6_tapeNumber_3 rfl (lv_at hl 0 rfl) ?_
  refine lv_if_lt (tgt := 46) hx hb dX6_tapeNumber_4 (by decide) (fun c22 => absurd c22 (by decide +kernel)) (fun c22 => ?_)
  refine lv_aload_n hx hb dX6_tapeNumber_7 rfl (lv_at hl 1 rfl) ?_
  refine va_get (D := (dC, dI)) (ci := 6) (v := .int 11) (C := RX6) (T := TX6) (N := 12) hx hb hts inX6 hown hK hP 0 rfl rfl 1 (by decide) (hts _ pq350) (fun _ h9 => h9) rfl dX6_tapeNumber_8 ?_
  refine lv_sipush (v := 400) hx hb dX6_tapeNumber_11 (by decide +kernel) ?_
  refine lv_icmp_ge (tgt := 46) hx hb dX6_tapeNumber_14 (by decide) (fun c23 => absurd c23 (by decide +kernel)) (fun c23 => ?_)
  refine lv_aload_n hx hb dX6_tapeNumber_17 rfl (lv_at hl 1 rfl) ?_
  refine va_get (D := (dC, dI)) (ci := 6) (v := .ref tp) (C := RX6) (T := TX6) (N := 12) hx hb hts inX6 hown hK hP 0 rfl rfl 0 (by decide) (hts _ pq349) (fun _ h9 => h9) rfl dX6_tapeNumber_18 ?_
  refine lv_aload_n hx hb dX6_tapeNumber_21 rfl (lv_at hl 1 rfl) ?_
  refine va_get (D := (dC, dI)) (ci := 6) (v := .int 11) (C := RX6) (T := TX6) (N := 12) hx hb hts inX6 hown hK hP 0 rfl rfl 1 (by decide) (hts _ pq350) (fun _ h9 => h9) rfl dX6_tapeNumber_22 ?_
  refine lv_iload_n hx hb dX6_tapeNumber_25 rfl (lv_at hl 2 rfl) ?_
  refine lv_iload_n hx hb dX6_tapeNumber_26 rfl (lv_at hl 0 rfl) ?_
  refine lv_ishr hx hb dX6_tapeNumber_27 ?_
  refine lv_topi (fun z24 ez24 => ?_)
  refine lv_i2b hx hb dX6_tapeNumber_28 rfl ?_
  refine lv_topi (fun z26 ez26 => ?_)
  refine va_bast hx hb hK hP hD hS 1 0 rfl rfl (in_d (by decide +kernel)) dX6_tapeNumber_29 (fun H locs hP hD hS => ?_)
  obtain ⟨f27, hP, hD⟩ : ∃ f27 : Nat → Int32, va_P (dC, dI) vwCl [(h0, .inr (6, [.ref tp, .int 11, .ref nw, .ref dr, .ref rd, .ref sc, .ref sk, .ref fl, .ref ps, .int 0, .int 0, .ref sh])), (tp, .inl (kB, 400, .inl f27))] H ∧ va_D A [(h0, .inr (6, [.ref tp, .int 11, .ref nw, .ref dr, .ref rd, .ref sc, .ref sk, .ref fl, .ref ps, .int 0, .int 0, .ref sh])), (tp, .inl (kB, 400, .inl f27))] := ⟨_, hP, hD⟩
  refine lv_aload_n hx hb dX6_tapeNumber_30 rfl (lv_at hl 1 rfl) ?_
  refine lv_dup hx hb dX6_tapeNumber_31 rfl ?_
  refine va_get (D := (dC, dI)) (ci := 6) (v := .int 11) (C := RX6) (T := TX6) (N := 12) hx hb hts inX6 hown hK hP 0 rfl rfl 1 (by decide) (hts _ pq350) (fun _ h9 => h9) rfl dX6_tapeNumber_32 ?_
  refine lv_iconst (v := 1) hx hb dX6_tapeNumber_35 (by decide +kernel) ?_
  refine lv_iadd hx hb dX6_tapeNumber_36 ?_
  refine lv_topi (fun z28 ez28 => ?_)
  obtain rfl : z28 = 12 := ez28.trans (by decide +kernel)
  refine va_put (D := (dC, dI)) (ci := 6) (v := .int 12) (ty := tyX6 1) (C := RX6) (T := TX6) (N := 12) hx hb hts inX6 tyX6 tyX6_ok nmX6 hown hK hP hD hS 0 rfl rfl 1 (by decide) (hts _ pq350) (fun _ h9 => h9) rfl (by decide +kernel) rfl rfl (Nat.le_of_ble_eq_true rfl) dX6_tapeNumber_37 (fun H locs hP hD hS => ?_)
  have hP : va_P (dC, dI) vwCl [(h0, .inr (6, [.ref tp, .int 12, .ref nw, .ref dr, .ref rd, .ref sc, .ref sk, .ref fl, .ref ps, .int 0, .int 0, .ref sh])), (tp, .inl (kB, 400, .inl f27))] H := hP
  have hD : va_D A [(h0, .inr (6, [.ref tp, .int 12, .ref nw, .ref dr, .ref rd, .ref sc, .ref sk, .ref fl, .ref ps, .int 0, .int 0, .ref sh])), (tp, .inl (kB, 400, .inl f27))] := hD
  refine lv_iinc (v := (-8)) (lv' := [(2, .int (-8)), (0, .ref h0), (1, .int p0)]) hx hb dX6_tapeNumber_40 hl (k := 0) rfl (by decide +kernel) (by decide) rfl (fun ls hl => ?_)
  refine lv_goto (tgt := 3) hx hb dX6_tapeNumber_43 (by decide) ?_
  refine lv_iload_n hx hb dX6_tapeNumber_3 rfl (lv_at hl 0 rfl) ?_
  refine lv_if_lt (tgt := 46) hx hb dX6_tapeNumber_4 (by decide) (fun c29 => ?_) (fun c29 => absurd (by decide +kernel) c29)
  have hP9 := hP.sub (ws' := [(h0, .inr (6, [.ref tp, .int 12, .ref nw, .ref dr, .ref rd, .ref sc, .ref sk, .ref fl, .ref ps, .int 0, .int 0, .ref sh])), (tp, .inl (kB, 400, .inl f27))]) [0, 1] rfl
  have hD9 := hD.sub (ws' := [(h0, .inr (6, [.ref tp, .int 12, .ref nw, .ref dr, .ref rd, .ref sc, .ref sk, .ref fl, .ref ps, .int 0, .int 0, .ref sh])), (tp, .inl (kB, 400, .inl f27))]) [0, 1] (by decide) rfl
  have hK9 := hK.sub (tys' := [(kB, .byte)]) [0] rfl
  exact W.vret hx hb hr (fun t ht hW => ⟨⟨(), rfl, trivial, ⟨f27, by rw [ht]; exact hP9, va_K.moved hW.alike hK9, hD9⟩⟩, hS.F ht⟩) hS.2.2 dX6_tapeNumber_46

set_option maxHeartbeats 4000000 in
set_option maxRecDepth 100000 in
theorem c_X6_tapeNumber_12 (l : Launch) (dC : Nat → ClassId) (dI : Nat → Nat → Nat) (h0 tp nw dr rd sc sk fl ps sh : Nat) (kB : ClassId) (sz : Nat) (f : Nat → Int32) (p0 : Int32) : Met l yX6_tapeNumber (.code yX6_tapeNumber cX6_tapeNumber 3 none :: pw) ({ frames := 0, cells := 0, slots := 0, locals := 0 }) (pc (dC, dI) [.ref h0, .int p0] sz [(h0, .inr (6, [.ref tp, .int 12, .ref nw, .ref dr, .ref rd, .ref sc, .ref sk, .ref fl, .ref ps, .int 0, .int 0, .ref sh])), (tp, .inl (kB, 400, .inl f))] [(kB, .byte)]) (va_Qv (fun (_ : Unit) => True) (fun _ t => ∃ (g : Nat → Int32), wB (dC, dI) [(h0, .inr (6, [.ref tp, .int 16, .ref nw, .ref dr, .ref rd, .ref sc, .ref sk, .ref fl, .ref ps, .int 0, .int 0, .ref sh])), (tp, .inl (kB, 400, .inl g))] [(kB, .byte)] (va_A [(h0, .inr (6, [.ref tp, .int 12, .ref nw, .ref dr, .ref rd, .ref sc, .ref sk, .ref fl, .ref ps, .int 0, .int 0, .ref sh])), (tp, .inl (kB, 400, .inl f))] sz) t) (va_A [(h0, .inr (6, [.ref tp, .int 12, .ref nw, .ref dr, .ref rd, .ref sc, .ref sk, .ref fl, .ref ps, .int 0, .int 0, .ref sh])), (tp, .inl (kB, 400, .inl f))] sz)) 0 0 (va_A [(h0, .inr (6, [.ref tp, .int 12, .ref nw, .ref dr, .ref rd, .ref sc, .ref sk, .ref fl, .ref ps, .int 0, .int 0, .ref sh])), (tp, .inl (kB, 400, .inl f))] sz) := by
  refine Met.ofW (cc := cX6_tapeNumber) (maxL := 3) (ret := none) (by decide +kernel) rfl ?_
  intro p e s m args below meth c s₁ B hml hv
  obtain ⟨rfl, hsz, hP, hK, hD0, hN⟩ := hv
  have hx := B.exec
  have hb := B.bytes
  have hr := B.returns
  have hts := fun w (h : w ∈ pw) => atoms_spec (ws := Cond.code yX6_tapeNumber cX6_tapeNumber 3 none :: pw) B.pre w (List.mem_cons_of_mem _ h)
  have hown : s.vm.findClass RX6 = some m.cls := findClass_of_methodNamed B.named
  have hlocks := B.notSynchronized
  subst hsz
  have hD := hD0.self (sz := s.heap.size)
  generalize hAe : va_A [(h0, .inr (6, [.ref tp, .int 12, .ref nw, .ref dr, .ref rd, .ref sc, .ref sk, .ref fl, .ref ps, .int 0, .int 0, .ref sh])), (tp, .inl (kB, 400, .inl f))] s.heap.size = A at hD ⊢
  have hA : ∀ q : Nat, s.heap.size ≤ q → A q := fun q h => by rw [← hAe]; exact Or.inr h
  obtain ⟨H, hHe⟩ : ∃ H : Heap, H = s.heap := ⟨_, rfl⟩
  have hS : va_S A s.heap H [] := by rw [hHe]; exact va_S.rf
  rw [← hHe] at hP
  have hl := lv_entry ([.ref h0, .int p0]) (n := 3) (Nat.le_of_ble_eq_true rfl)
  rw [lg_entry_eq]
  generalize (lg_sl ([.ref h0, .int p0]) ++ List.replicate (3 - (lg_sl ([.ref h0, .int p0])).length) Slot.unset).toArray = ls at hl ⊢
  have hl : lv_has ls 3 [(0, .ref h0), (1, .int p0)] := hl
  rw [← hHe]
  refine lv_bipush (v := 24) hx hb dX6_tapeNumber_0 (by decide +kernel) ?_
  refine lv_istore_n (lv' := [(2, .int 24), (0, .ref h0), (1, .int p0)]) hx hb dX6_tapeNumber_2 rfl hl (by decide) rfl (fun ls hl => ?_)
  refine lv_iload_n hx hb dX6_tapeNumber_3 rfl (lv_at hl 0 rfl) ?_
  refine lv_if_lt (tgt := 46) hx hb dX6_tapeNumber_4 (by decide) (fun c1 => absurd c1 (by decide +kernel)) (fun c1 => ?_)
  refine lv_aload_n hx hb dX6_tapeNumber_7 rfl (lv_at hl 1 rfl) ?_
  refine va_get (D := (dC, dI)) (ci := 6) (v := .int 12) (C := RX6) (T := TX6) (N := 12) hx hb hts inX6 hown hK hP 0 rfl rfl 1 (by decide) (hts _ pq350) (fun _ h9 => h9) rfl dX6_tapeNumber_8 ?_
  refine lv_sipush (v := 400) hx hb dX6_tapeNumber_11 (by decide +kernel) ?_
  refine lv_icmp_ge (tgt := 46) hx hb dX6_tapeNumber_14 (by decide) (fun c2 => absurd c2 (by decide +kernel)) (fun c2 => ?_)
  refine lv_aload_n hx hb dX6_tapeNumber_17 rfl (lv_at hl 1 rfl) ?_
  refine va_get (D := (dC, dI)) (ci := 6) (v := .ref tp) (C := RX6) (T := TX6) (N := 12) hx hb hts inX6 hown hK hP 0 rfl rfl 0 (by decide) (hts _ pq349) (fun _ h9 => h9) rfl dX6_tapeNumber_18 ?_
  refine lv_aload_n hx hb dX6_tapeNumber_21 rfl (lv_at hl 1 rfl) ?_
  refine va_get (D := (dC, dI)) (ci := 6) (v := .int 12) (C := RX6) (T := TX6) (N := 12) hx hb hts inX6 hown hK hP 0 rfl rfl 1 (by decide) (hts _ pq350) (fun _ h9 => h9) rfl dX6_tapeNumber_22 ?_
  refine lv_iload_n hx hb dX6_tapeNumber_25 rfl (lv_at hl 2 rfl) ?_
  refine lv_iload_n hx hb dX6_tapeNumber_26 rfl (lv_at hl 0 rfl) ?_
  refine lv_ishr hx hb dX6_tapeNumber_27 ?_
  refine lv_topi (fun z3 ez3 => ?_)
  refine lv_i2b hx hb dX6_tapeNumber_28 rfl ?_
  refine lv_topi (fun z5 ez5 => ?_)
  refine va_bast hx hb hK hP hD hS 1 0 rfl rfl (in_d (by decide +kernel)) dX6_tapeNumber_29 (fun H locs hP hD hS => ?_)
  obtain ⟨f6, hP, hD⟩ : ∃ f6 : Nat → Int32, va_P (dC, dI) vwCl [(h0, .inr (6, [.ref tp, .int 12, .ref nw, .ref dr, .ref rd, .ref sc, .ref sk, .ref fl, .ref ps, .int 0, .int 0, .ref sh])), (tp, .inl (kB, 400, .inl f6))] H ∧ va_D A [(h0, .inr (6, [.ref tp, .int 12, .ref nw, .ref dr, .ref rd, .ref sc, .ref sk, .ref fl, .ref ps, .int 0, .int 0, .ref sh])), (tp, .inl (kB, 400, .inl f6))] := ⟨_, hP, hD⟩
  refine lv_aload_n hx hb dX6_tapeNumber_30 rfl (lv_at hl 1 rfl) ?_
  refine lv_dup hx hb dX6_tapeNumber_31 rfl ?_
  refine va_get (D := (dC, dI)) (ci := 6) (v := .int 12) (C := RX6) (T := TX6) (N := 12) hx hb hts inX6 hown hK hP 0 rfl rfl 1 (by decide) (hts _ pq350) (fun _ h9 => h9) rfl dX6_tapeNumber_32 ?_
  refine lv_iconst (v := 1) hx hb dX6_tapeNumber_35 (by decide +kernel) ?_
  refine lv_iadd hx hb dX6_tapeNumber_36 ?_
  refine lv_topi (fun z7 ez7 => ?_)
  obtain rfl : z7 = 13 := ez7.trans (by decide +kernel)
  refine va_put (D := (dC, dI)) (ci := 6) (v := .int 13) (ty := tyX6 1) (C := RX6) (T := TX6) (N := 12) hx hb hts inX6 tyX6 tyX6_ok nmX6 hown hK hP hD hS 0 rfl rfl 1 (by decide) (hts _ pq350) (fun _ h9 => h9) rfl (by decide +kernel) rfl rfl (Nat.le_of_ble_eq_true rfl) dX6_tapeNumber_37 (fun H locs hP hD hS => ?_)
  have hP : va_P (dC, dI) vwCl [(h0, .inr (6, [.ref tp, .int 13, .ref nw, .ref dr, .ref rd, .ref sc, .ref sk, .ref fl, .ref ps, .int 0, .int 0, .ref sh])), (tp, .inl (kB, 400, .inl f6))] H := hP
  have hD : va_D A [(h0, .inr (6, [.ref tp, .int 13, .ref nw, .ref dr, .ref rd, .ref sc, .ref sk, .ref fl, .ref ps, .int 0, .int 0, .ref sh])), (tp, .inl (kB, 400, .inl f6))] := hD
  refine lv_iinc (v := 16) (lv' := [(2, .int 16), (0, .ref h0), (1, .int p0)]) hx hb dX6_tapeNumber_40 hl (k := 0) rfl (by decide +kernel) (by decide) rfl (fun ls hl => ?_)
  refine lv_goto (tgt := 3) hx hb dX6_tapeNumber_43 (by decide) ?_
  refine lv_iload_n hx hb dX6_tapeNumber_3 rfl (lv_at hl 0 rfl) ?_
  refine lv_if_lt (tgt := 46) hx hb dX6_tapeNumber_4 (by decide) (fun c8 => absurd c8 (by decide +kernel)) (fun c8 => ?_)
  refine lv_aload_n hx hb dX6_tapeNumber_7 rfl (lv_at hl 1 rfl) ?_
  refine va_get (D := (dC, dI)) (ci := 6) (v := .int 13) (C := RX6) (T := TX6) (N := 12) hx hb hts inX6 hown hK hP 0 rfl rfl 1 (by decide) (hts _ pq350) (fun _ h9 => h9) rfl dX6_tapeNumber_8 ?_
  refine lv_sipush (v := 400) hx hb dX6_tapeNumber_11 (by decide +kernel) ?_
  refine lv_icmp_ge (tgt := 46) hx hb dX6_tapeNumber_14 (by decide) (fun c9 => absurd c9 (by decide +kernel)) (fun c9 => ?_)
  refine lv_aload_n hx hb dX6_tapeNumber_17 rfl (lv_at hl 1 rfl) ?_
  refine va_get (D := (dC, dI)) (ci := 6) (v := .ref tp) (C := RX6) (T := TX6) (N := 12) hx hb hts inX6 hown hK hP 0 rfl rfl 0 (by decide) (hts _ pq349) (fun _ h9 => h9) rfl dX6_tapeNumber_18 ?_
  refine lv_aload_n hx hb dX6_tapeNumber_21 rfl (lv_at hl 1 rfl) ?_
  refine va_get (D := (dC, dI)) (ci := 6) (v := .int 13) (C := RX6) (T := TX6) (N := 12) hx hb hts inX6 hown hK hP 0 rfl rfl 1 (by decide) (hts _ pq350) (fun _ h9 => h9) rfl dX6_tapeNumber_22 ?_
  refine lv_iload_n hx hb dX6_tapeNumber_25 rfl (lv_at hl 2 rfl) ?_
  refine lv_iload_n hx hb dX6_tapeNumber_26 rfl (lv_at hl 0 rfl) ?_
  refine lv_ishr hx hb dX6_tapeNumber_27 ?_
  refine lv_topi (fun z10 ez10 => ?_)
  refine lv_i2b hx hb dX6_tapeNumber_28 rfl ?_
  refine lv_topi (fun z12 ez12 => ?_)
  refine va_bast hx hb hK hP hD hS 1 0 rfl rfl (in_d (by decide +kernel)) dX6_tapeNumber_29 (fun H locs hP hD hS => ?_)
  obtain ⟨f13, hP, hD⟩ : ∃ f13 : Nat → Int32, va_P (dC, dI) vwCl [(h0, .inr (6, [.ref tp, .int 13, .ref nw, .ref dr, .ref rd, .ref sc, .ref sk, .ref fl, .ref ps, .int 0, .int 0, .ref sh])), (tp, .inl (kB, 400, .inl f13))] H ∧ va_D A [(h0, .inr (6, [.ref tp, .int 13, .ref nw, .ref dr, .ref rd, .ref sc, .ref sk, .ref fl, .ref ps, .int 0, .int 0, .ref sh])), (tp, .inl (kB, 400, .inl f13))] := ⟨_, hP, hD⟩
  refine lv_aload_n hx hb dX6_tapeNumber_30 rfl (lv_at hl 1 rfl) ?_
  refine lv_dup hx hb dX6_tapeNumber_31 rfl ?_
  refine va_get (D := (dC, dI)) (ci := 6) (v := .int 13) (C := RX6) (T := TX6) (N := 12) hx hb hts inX6 hown hK hP 0 rfl rfl 1 (by decide) (hts _ pq350) (fun _ h9 => h9) rfl dX6_tapeNumber_32 ?_
  refine lv_iconst (v := 1) hx hb dX6_tapeNumber_35 (by decide +kernel) ?_
  refine lv_iadd hx hb dX6_tapeNumber_36 ?_
  refine lv_topi (fun z14 ez14 => ?_)
  obtain rfl : z14 = 14 := ez14.trans (by decide +kernel)
  refine va_put (D := (dC, dI)) (ci := 6) (v := .int 14) (ty := tyX6 1) (C := RX6) (T := TX6) (N := 12) hx hb hts inX6 tyX6 tyX6_ok nmX6 hown hK hP hD hS 0 rfl rfl 1 (by decide) (hts _ pq350) (fun _ h9 => h9) rfl (by decide +kernel) rfl rfl (Nat.le_of_ble_eq_true rfl) dX6_tapeNumber_37 (fun H locs hP hD hS => ?_)
  have hP : va_P (dC, dI) vwCl [(h0, .inr (6, [.ref tp, .int 14, .ref nw, .ref dr, .ref rd, .ref sc, .ref sk, .ref fl, .ref ps, .int 0, .int 0, .ref sh])), (tp, .inl (kB, 400, .inl f13))] H := hP
  have hD : va_D A [(h0, .inr (6, [.ref tp, .int 14, .ref nw, .ref dr, .ref rd, .ref sc, .ref sk, .ref fl, .ref ps, .int 0, .int 0, .ref sh])), (tp, .inl (kB, 400, .inl f13))] := hD
  refine lv_iinc (v := 8) (lv' := [(2, .int 8), (0, .ref h0), (1, .int p0)]) hx hb dX6_tapeNumber_40 hl (k := 0) rfl (by decide +kernel) (by decide) rfl (fun ls hl => ?_)
  refine lv_goto (tgt := 3) hx hb dX6_tapeNumber_43 (by decide) ?_
  refine lv_iload_n hx hb dX6_tapeNumber_3 rfl (lv_at hl 0 rfl) ?_
  refine lv_if_lt (tgt := 46) hx hb dX6_tapeNumber_4 (by decide) (fun c15 => absurd c15 (by decide +kernel)) (fun c15 => ?_)
  refine lv_aload_n hx hb dX6_tapeNumber_7 rfl (lv_at hl 1 rfl) ?_
  refine va_get (D := (dC, dI)) (ci := 6) (v := .int 14) (C := RX6) (T := TX6) (N := 12) hx hb hts inX6 hown hK hP 0 rfl rfl 1 (by decide) (hts _ pq350) (fun _ h9 => h9) rfl dX6_tapeNumber_8 ?_
  refine lv_sipush (v := 400) hx hb dX6_tapeNumber_11 (by decide +kernel) ?_
  refine lv_icmp_ge (tgt := 46) hx hb dX6_tapeNumber_14 (by decide) (fun c16 => absurd c16 (by decide +kernel)) (fun c16 => ?_)
  refine lv_aload_n hx hb dX6_tapeNumber_17 rfl (lv_at hl 1 rfl) ?_
  refine va_get (D := (dC, dI)) (ci := 6) (v := .ref tp) (C := RX6) (T := TX6) (N := 12) hx hb hts inX6 hown hK hP 0 rfl rfl 0 (by decide) (hts _ pq349) (fun _ h9 => h9) rfl dX6_tapeNumber_18 ?_
  refine lv_aload_n hx hb dX6_tapeNumber_21 rfl (lv_at hl 1 rfl) ?_
  refine va_get (D := (dC, dI)) (ci := 6) (v := .int 14) (C := RX6) (T := TX6) (N := 12) hx hb hts inX6 hown hK hP 0 rfl rfl 1 (by decide) (hts _ pq350) (fun _ h9 => h9) rfl dX6_tapeNumber_22 ?_
  refine lv_iload_n hx hb dX6_tapeNumber_25 rfl (lv_at hl 2 rfl) ?_
  refine lv_iload_n hx hb dX6_tapeNumber_26 rfl (lv_at hl 0 rfl) ?_
  refine lv_ishr hx hb dX6_tapeNumber_27 ?_
  refine lv_topi (fun z17 ez17 => ?_)
  refine lv_i2b hx hb dX6_tapeNumber_28 rfl ?_
  refine lv_topi (fun z19 ez19 => ?_)
  refine va_bast hx hb hK hP hD hS 1 0 rfl rfl (in_d (by decide +kernel)) dX6_tapeNumber_29 (fun H locs hP hD hS => ?_)
  obtain ⟨f20, hP, hD⟩ : ∃ f20 : Nat → Int32, va_P (dC, dI) vwCl [(h0, .inr (6, [.ref tp, .int 14, .ref nw, .ref dr, .ref rd, .ref sc, .ref sk, .ref fl, .ref ps, .int 0, .int 0, .ref sh])), (tp, .inl (kB, 400, .inl f20))] H ∧ va_D A [(h0, .inr (6, [.ref tp, .int 14, .ref nw, .ref dr, .ref rd, .ref sc, .ref sk, .ref fl, .ref ps, .int 0, .int 0, .ref sh])), (tp, .inl (kB, 400, .inl f20))] := ⟨_, hP, hD⟩
  refine lv_aload_n hx hb dX6_tapeNumber_30 rfl (lv_at hl 1 rfl) ?_
  refine lv_dup hx hb dX6_tapeNumber_31 rfl ?_
  refine va_get (D := (dC, dI)) (ci := 6) (v := .int 14) (C := RX6) (T := TX6) (N := 12) hx hb hts inX6 hown hK hP 0 rfl rfl 1 (by decide) (hts _ pq350) (fun _ h9 => h9) rfl dX6_tapeNumber_32 ?_
  refine lv_iconst (v := 1) hx hb dX6_tapeNumber_35 (by decide +kernel) ?_
  refine lv_iadd hx hb dX6_tapeNumber_36 ?_
  refine lv_topi (fun z21 ez21 => ?_)
  obtain rfl : z21 = 15 := ez21.trans (by decide +kernel)
  refine va_put (D := (dC, dI)) (ci := 6) (v := .int 15) (ty := tyX6 1) (C := RX6) (T := TX6) (N := 12) hx hb hts inX6 tyX6 tyX6_ok nmX6 hown hK hP hD hS 0 rfl rfl 1 (by decide) (hts _ pq350) (fun _ h9 => h9) rfl (by decide +kernel) rfl rfl (Nat.le_of_ble_eq_true rfl) dX6_tapeNumber_37 (fun H locs hP hD hS => ?_)
  have hP : va_P (dC, dI) vwCl [(h0, .inr (6, [.ref tp, .int 15, .ref nw, .ref dr, .ref rd, .ref sc, .ref sk, .ref fl, .ref ps, .int 0, .int 0, .ref sh])), (tp, .inl (kB, 400, .inl f20))] H := hP
  have hD : va_D A [(h0, .inr (6, [.ref tp, .int 15, .ref nw, .ref dr, .ref rd, .ref sc, .ref sk, .ref fl, .ref ps, .int 0, .int 0, .ref sh])), (tp, .inl (kB, 400, .inl f20))] := hD
  refine lv_iinc (v := 0) (lv' := [(2, .int 0), (0, .ref h0), (1, .int p0)]) hx hb dX6_tapeNumber_40 hl (k := 0) rfl (by decide +kernel) (by decide) rfl (fun ls hl => ?_)
  refine lv_goto (tgt := 3) hx hb dX6_tapeNumber_43 (by decide) ?_
  refine lv_iload_n hx hb dX6_tapeNumber_3 rfl (lv_at hl 0 rfl) ?_
  refine lv_if_lt (tgt := 46) hx hb dX6_tapeNumber_4 (by decide) (fun c22 => absurd c22 (by decide +kernel)) (fun c22 => ?_)
  refine lv_aload_n hx hb dX6_tapeNumber_7 rfl (lv_at hl 1 rfl) ?_
  refine va_get (D := (dC, dI)) (ci := 6) (v := .int 15) (C := RX6) (T := TX6) (N := 12) hx hb hts inX6 hown hK hP 0 rfl rfl 1 (by decide) (hts _ pq350) (fun _ h9 => h9) rfl dX6_tapeNumber_8 ?_
  refine lv_sipush (v := 400) hx hb dX6_tapeNumber_11 (by decide +kernel) ?_
  refine lv_icmp_ge (tgt := 46) hx hb dX6_tapeNumber_14 (by decide) (fun c23 => absurd c23 (by decide +kernel)) (fun c23 => ?_)
  refine lv_aload_n hx hb dX6_tapeNumber_17 rfl (lv_at hl 1 rfl) ?_
  refine va_get (D := (dC, dI)) (ci := 6) (v := .ref tp) (C := RX6) (T := TX6) (N := 12) hx hb hts inX6 hown hK hP 0 rfl rfl 0 (by decide) (hts _ pq349) (fun _ h9 => h9) rfl dX6_tapeNumber_18 ?_
  refine lv_aload_n hx hb dX6_tapeNumber_21 rfl (lv_at hl 1 rfl) ?_
  refine va_get (D := (dC, dI)) (ci := 6) (v := .int 15) (C := RX6) (T := TX6) (N := 12) hx hb hts inX6 hown hK hP 0 rfl rfl 1 (by decide) (hts _ pq350) (fun _ h9 => h9) rfl dX6_tapeNumber_22 ?_
  refine lv_iload_n hx hb dX6_tapeNumber_25 rfl (lv_at hl 2 rfl) ?_
  refine lv_iload_n hx hb dX6_tapeNumber_26 rfl (lv_at hl 0 rfl) ?_
  refine lv_ishr hx hb dX6_tapeNumber_27 ?_
  refine lv_topi (fun z24 ez24 => ?_)
  refine lv_i2b hx hb dX6_tapeNumber_28 rfl ?_
  refine lv_topi (fun z26 ez26 => ?_)
  refine va_bast hx hb hK hP hD hS 1 0 rfl rfl (in_d (by decide +kernel)) dX6_tapeNumber_29 (fun H locs hP hD hS => ?_)
  obtain ⟨f27, hP, hD⟩ : ∃ f27 : Nat → Int32, va_P (dC, dI) vwCl [(h0, .inr (6, [.ref tp, .int 15, .ref nw, .ref dr, .ref rd, .ref sc, .ref sk, .ref fl, .ref ps, .int 0, .int 0, .ref sh])), (tp, .inl (kB, 400, .inl f27))] H ∧ va_D A [(h0, .inr (6, [.ref tp, .int 15, .ref nw, .ref dr, .ref rd, .ref sc, .ref sk, .ref fl, .ref ps, .int 0, .int 0, .ref sh])), (tp, .inl (kB, 400, .inl f27))] := ⟨_, hP, hD⟩
  refine lv_aload_n hx hb dX6_tapeNumber_30 rfl (lv_at hl 1 rfl) ?_
  refine lv_dup hx hb dX6_tapeNumber_31 rfl ?_
  refine va_get (D := (dC, dI)) (ci := 6) (v := .int 15) (C := RX6) (T := TX6) (N := 12) hx hb hts inX6 hown hK hP 0 rfl rfl 1 (by decide) (hts _ pq350) (fun _ h9 => h9) rfl dX6_tapeNumber_32 ?_
  refine lv_iconst (v := 1) hx hb dX6_tapeNumber_35 (by decide +kernel) ?_
  refine lv_iadd hx hb dX6_tapeNumber_36 ?_
  refine lv_topi (fun z28 ez28 => ?_)
  obtain rfl : z28 = 16 := ez28.trans (by decide +kernel)
  refine va_put (D := (dC, dI)) (ci := 6) (v := .int 16) (ty := tyX6 1) (C := RX6) (T := TX6) (N := 12) hx hb hts inX6 tyX6 tyX6_ok nmX6 hown hK hP hD hS 0 rfl rfl 1 (by decide) (hts _ pq350) (fun _ h9 => h9) rfl (by decide +kernel) rfl rfl (Nat.le_of_ble_eq_true rfl) dX6_tapeNumber_37 (fun H locs hP hD hS => ?_)
  have hP : va_P (dC, dI) vwCl [(h0, .inr (6, [.ref tp, .int 16, .ref nw, .ref dr, .ref rd, .ref sc, .ref sk, .ref fl, .ref ps, .int 0, .int 0, .ref sh])), (tp, .inl (kB, 400, .inl f27))] H := hP
  have hD : va_D A [(h0, .inr (6, [.ref tp, .int 16, .ref nw, .ref dr, .ref rd, .ref sc, .ref sk, .ref fl, .ref ps, .int 0, .int 0, .ref sh])), (tp, .inl (kB, 400, .inl f27))] := hD
  refine lv_iinc (v := (-8)) (lv' := [(2, .int (-8)), (0, .ref h0), (1, .int p0)]) hx hb dX6_tapeNumber_40 hl (k := 0) rfl (by decide +kernel) (by decide) rfl (fun ls hl => ?_)
  refine lv_goto (tgt := 3) hx hb dX6_tapeNumber_43 (by decide) ?_
  refine lv_iload_n hx hb dX6_tapeNumber_3 rfl (lv_at hl 0 rfl) ?_
  refine lv_if_lt (tgt := 46) hx hb dX6_tapeNumber_4 (by decide) (fun c29 => ?_) (fun c29 => absurd (by decide +kernel) c29)
  have hP9 := hP.sub (ws' := [(h0, .inr (6, [.ref tp, .int 16, .ref nw, .ref dr, .ref rd, .ref sc, .ref sk, .ref fl, .ref ps, .int 0, .int 0, .ref sh])), (tp, .inl (kB, 400, .inl f27))]) [0, 1] rfl
  have hD9 := hD.sub (ws' := [(h0, .inr (6, [.ref tp, .int 16, .ref nw, .ref dr, .ref rd, .ref sc, .ref sk, .ref fl, .ref ps, .int 0, .int 0, .ref sh])), (tp, .inl (kB, 400, .inl f27))]) [0, 1] (by decide) rfl
  have hK9 := hK.sub (tys' := [(kB, .byte)]) [0] rfl
  exact W.vret hx hb hr (fun t ht hW => ⟨⟨(), rfl, trivial, ⟨f27, by rw [ht]; exact hP9, va_K.moved hW.alike hK9, hD9⟩⟩, hS.F ht⟩) hS.2.2 dX6_tapeNumber_46

set_option maxHeartbeats 4000000 in
set_option maxRecDepth 100000 in
theorem c_X6_tapeNumber_16 (l : Launch) (dC : Nat → ClassId) (dI : Nat → Nat → Nat) (h0 tp nw dr rd sc sk fl ps sh : Nat) (kB : ClassId) (sz : Nat) (f : Nat → Int32) (p0 : Int32) : Met l yX6_tapeNumber (.code yX6_tapeNumber cX6_tapeNumber 3 none :: pw) ({ frames := 0, cells := 0, slots := 0, locals := 0 }) (pc (dC, dI) [.ref h0, .int p0] sz [(h0, .inr (6, [.ref tp, .int 16, .ref nw, .ref dr, .ref rd, .ref sc, .ref sk, .ref fl, .ref ps, .int 0, .int 0, .ref sh])), (tp, .inl (kB, 400, .inl f))] [(kB, .byte)]) (va_Qv (fun (_ : Unit) => True) (fun _ t => ∃ (g : Nat → Int32), wB (dC, dI) [(h0, .inr (6, [.ref tp, .int 20, .ref nw, .ref dr, .ref rd, .ref sc, .ref sk, .ref fl, .ref ps, .int 0, .int 0, .ref sh])), (tp, .inl (kB, 400, .inl g))] [(kB, .byte)] (va_A [(h0, .inr (6, [.ref tp, .int 16, .ref nw, .ref dr, .ref rd, .ref sc, .ref sk, .ref fl, .ref ps, .int 0, .int 0, .ref sh])), (tp, .inl (kB, 400, .inl f))] sz) t) (va_A [(h0, .inr (6, [.ref tp, .int 16, .ref nw, .ref dr, .ref rd, .ref sc, .ref sk, .ref fl, .ref ps, .int 0, .int 0, .ref sh])), (tp, .inl (kB, 400, .inl f))] sz)) 0 0 (va_A [(h0, .inr (6, [.ref tp, .int 16, .ref nw, .ref dr, .ref rd, .ref sc, .ref sk, .ref fl, .ref ps, .int 0, .int 0, .ref sh])), (tp, .inl (kB, 400, .inl f))] sz) := by
  refine Met.ofW (cc := cX6_tapeNumber) (maxL := 3) (ret := none) (by decide +kernel) rfl ?_
  intro p e s m args below meth c s₁ B hml hv
  obtain ⟨rfl, hsz, hP, hK, hD0, hN⟩ := hv
  have hx := B.exec
  have hb := B.bytes
  have hr := B.returns
  have hts := fun w (h : w ∈ pw) => atoms_spec (ws := Cond.code yX6_tapeNumber cX6_tapeNumber 3 none :: pw) B.pre w (List.mem_cons_of_mem _ h)
  have hown : s.vm.findClass RX6 = some m.cls := findClass_of_methodNamed B.named
  have hlocks := B.notSynchronized
  subst hsz
  have hD := hD0.self (sz := s.heap.size)
  generalize hAe : va_A [(h0, .inr (6, [.ref tp, .int 16, .ref nw, .ref dr, .ref rd, .ref sc, .ref sk, .ref fl, .ref ps, .int 0, .int 0, .ref sh])), (tp, .inl (kB, 400, .inl f))] s.heap.size = A at hD ⊢
  have hA : ∀ q : Nat, s.heap.size ≤ q → A q := fun q h => by rw [← hAe]; exact Or.inr h
  obtain ⟨H, hHe⟩ : ∃ H : Heap, H = s.heap := ⟨_, rfl⟩
  have hS : va_S A s.heap H [] := by rw [hHe]; exact va_S.rf
  rw [← hHe] at hP
  have hl := lv_entry ([.ref h0, .int p0]) (n := 3) (Nat.le_of_ble_eq_true rfl)
  rw [lg_entry_eq]
  generalize (lg_sl ([.ref h0, .int p0]) ++ List.replicate (3 - (lg_sl ([.ref h0, .int p0])).length) Slot.unset).toArray = ls at hl ⊢
  have hl : lv_has ls 3 [(0, .ref h0), (1, .int p0)] := hl
  rw [← hHe]
  refine lv_bipush (v := 24) hx hb dX6_tapeNumber_0 (by decide +kernel) ?_
  refine lv_istore_n (lv' := [(2, .int 24), (0, .ref h0), (1, .int p0)]) hx hb dX6_tapeNumber_2 rfl hl (by decide) rfl (fun ls hl => ?_)
  refine lv_iload_n hx hb dX6_tapeNumber_3 rfl (lv_at hl 0 rfl) ?_
  refine lv_if_lt (tgt := 46) hx hb dX6_tapeNumber_4 (by decide) (fun c1 => absurd c1 (by decide +kernel)) (fun c1 => ?_)
  refine lv_aload_n hx hb dX6_tapeNumber_7 rfl (lv_at hl 1 rfl) ?_
  refine va_get (D := (dC, dI)) (ci := 6) (v := .int 16) (C := RX6) (T := TX6) (N := 12) hx hb hts inX6 hown hK hP 0 rfl rfl 1 (by decide) (hts _ pq350) (fun _ h9 => h9) rfl dX6_tapeNumber_8 ?_
  refine lv_sipush (v := 400) hx hb dX6_tapeNumber_11 (by decide +kernel) ?_
  refine lv_icmp_ge (tgt := 46) hx hb dX6_tapeNumber_14 (by decide) (fun c2 => absurd c2 (by decide +kernel)) (fun c2 => ?_)
  refine lv_aload_n hx hb dX6_tapeNumber_17 rfl (lv_at hl 1 rfl) ?_
  refine va_get (D := (dC, dI)) (ci := 6) (v := .ref tp) (C := RX6) (T := TX6) (N := 12) hx hb hts inX6 hown hK hP 0 rfl rfl 0 (by decide) (hts _ pq349) (fun _ h9 => h9) rfl dX6_tapeNumber_18 ?_
  refine lv_aload_n hx hb dX6_tapeNumber_21 rfl (lv_at hl 1 rfl) ?_
  refine va_get (D := (dC, dI)) (ci := 6) (v := .int 16) (C := RX6) (T := TX6) (N := 12) hx hb hts inX6 hown hK hP 0 rfl rfl 1 (by decide) (hts _ pq350) (fun _ h9 => h9) rfl dX6_tapeNumber_22 ?_
  refine lv_iload_n hx hb dX6_tapeNumber_25 rfl (lv_at hl 2 rfl) ?_
  refine lv_iload_n hx hb dX6_tapeNumber_26 rfl (lv_at hl 0 rfl) ?_
  refine lv_ishr hx hb dX6_tapeNumber_27 ?_
  refine lv_topi (fun z3 ez3 => ?_)
  refine lv_i2b hx hb dX6_tapeNumber_28 rfl ?_
  refine lv_topi (fun z5 ez5 => ?_)
  refine va_bast hx hb hK hP hD hS 1 0 rfl rfl (in_d (by decide +kernel)) dX6_tapeNumber_29 (fun H locs hP hD hS => ?_)
  obtain ⟨f6, hP, hD⟩ : ∃ f6 : Nat → Int32, va_P (dC, dI) vwCl [(h0, .inr (6, [.ref tp, .int 16, .ref nw, .ref dr, .ref rd, .ref sc, .ref sk, .ref fl, .ref ps, .int 0, .int 0, .ref sh])), (tp, .inl (kB, 400, .inl f6))] H ∧ va_D A [(h0, .inr (6, [.ref tp, .int 16, .ref nw, .ref dr, .ref rd, .ref sc, .ref sk, .ref fl, .ref ps, .int 0, .int 0, .ref sh])), (tp, .inl (kB, 400, .inl f6))] := ⟨_, hP, hD⟩
  refine lv_aload_n hx hb dX6_tapeNumber_30 rfl (lv_at hl 1 rfl) ?_
  refine lv_dup hx hb dX6_tapeNumber_31 rfl ?_
  refine va_get (D := (dC, dI)) (ci := 6) (v := .int 16) (C := RX6) (T := TX6) (N := 12) hx hb hts inX6 hown hK hP 0 rfl rfl 1 (by decide) (hts _ pq350) (fun _ h9 => h9) rfl dX6_tapeNumber_32 ?_
  refine lv_iconst (v := 1) hx hb dX6_tapeNumber_35 (by decide +kernel) ?_
  refine lv_iadd hx hb dX6_tapeNumber_36 ?_
  refine lv_topi (fun z7 ez7 => ?_)
  obtain rfl : z7 = 17 := ez7.trans (by decide +kernel)
  refine va_put (D := (dC, dI)) (ci := 6) (v := .int 17) (ty := tyX6 1) (C := RX6) (T := TX6) (N := 12) hx hb hts inX6 tyX6 tyX6_ok nmX6 hown hK hP hD hS 0 rfl rfl 1 (by decide) (hts _ pq350) (fun _ h9 => h9) rfl (by decide +kernel) rfl rfl (Nat.le_of_ble_eq_true rfl) dX6_tapeNumber_37 (fun H locs hP hD hS => ?_)
  have hP : va_P (dC, dI) vwCl [(h0, .inr (6, [.ref tp, .int 17, .ref nw, .ref dr, .ref rd, .ref sc, .ref sk, .ref fl, .ref ps, .int 0, .int 0, .ref sh])), (tp, .inl (kB, 400, .inl f6))] H := hP
  have hD : va_D A [(h0, .inr (6, [.ref tp, .int 17, .ref nw, .ref dr, .ref rd, .ref sc, .ref sk, .ref fl, .ref ps, .int 0, .int 0, .ref sh])), (tp, .inl (kB, 400, .inl f6))] := hD
  refine lv_iinc (v := 16) (lv' := [(2, .int 16), (0, .ref h0), (1, .int p0)]) hx hb dX6_tapeNumber_40 hl (k := 0) rfl (by decide +kernel) (by decide) rfl (fun ls hl => ?_)
  refine lv_goto (tgt := 3) hx hb dX6_tapeNumber_43 (by decide) ?_
  refine lv_iload_n hx hb dX6_tapeNumber_3 rfl (lv_at hl 0 rfl) ?_
  refine lv_if_lt (tgt := 46) hx hb dX6_tapeNumber_4 (by decide) (fun c8 => absurd c8 (by decide +kernel)) (fun c8 => ?_)
  refine lv_aload_n hx hb dX6_tapeNumber_7 rfl (lv_at hl 1 rfl) ?_
  refine va_get (D := (dC, dI)) (ci := 6) (v := .int 17) (C := RX6) (T := TX6) (N := 12) hx hb hts inX6 hown hK hP 0 rfl rfl 1 (by decide) (hts _ pq350) (fun _ h9 => h9) rfl dX6_tapeNumber_8 ?_
  refine lv_sipush (v := 400) hx hb dX6_tapeNumber_11 (by decide +kernel) ?_
  refine lv_icmp_ge (tgt := 46) hx hb dX6_tapeNumber_14 (by decide) (fun c9 => absurd c9 (by decide +kernel)) (fun c9 => ?_)
  refine lv_aload_n hx hb dX6_tapeNumber_17 rfl (lv_at hl 1 rfl) ?_
  refine va_get (D := (dC, dI)) (ci := 6) (v := .ref tp) (C := RX6) (T := TX6) (N := 12) hx hb hts inX6 hown hK hP 0 rfl rfl 0 (by decide) (hts _ pq349) (fun _ h9 => h9) rfl dX6_tapeNumber_18 ?_
  refine lv_aload_n hx hb dX6_tapeNumber_21 rfl (lv_at hl 1 rfl) ?_
  refine va_get (D := (dC, dI)) (ci := 6) (v := .int 17) (C := RX6) (T := TX6) (N := 12) hx hb hts inX6 hown hK hP 0 rfl rfl 1 (by decide) (hts _ pq350) (fun _ h9 => h9) rfl dX6_tapeNumber_22 ?_
  refine lv_iload_n hx hb dX6_tapeNumber_25 rfl (lv_at hl 2 rfl) ?_
  refine lv_iload_n hx hb dX6_tapeNumber_26 rfl (lv_at hl 0 rfl) ?_
  refine lv_ishr hx hb dX6_tapeNumber_27 ?_
  refine lv_topi (fun z10 ez10 => ?_)
  refine lv_i2b hx hb dX6_tapeNumber_28 rfl ?_
  refine lv_topi (fun z12 ez12 => ?_)
  refine va_bast hx hb hK hP hD hS 1 0 rfl rfl (in_d (by decide +kernel)) dX6_tapeNumber_29 (fun H locs hP hD hS => ?_)
  obtain ⟨f13, hP, hD⟩ : ∃ f13 : Nat → Int32, va_P (dC, dI) vwCl [(h0, .inr (6, [.ref tp, .int 17, .ref nw, .ref dr, .ref rd, .ref sc, .ref sk, .ref fl, .ref ps, .int 0, .int 0, .ref sh])), (tp, .inl (kB, 400, .inl f13))] H ∧ va_D A [(h0, .inr (6, [.ref tp, .int 17, .ref nw, .ref dr, .ref rd, .ref sc, .ref sk, .ref fl, .ref ps, .int 0, .int 0, .ref sh])), (tp, .inl (kB, 400, .inl f13))] := ⟨_, hP, hD⟩
  refine lv_aload_n hx hb dX6_tapeNumber_30 rfl (lv_at hl 1 rfl) ?_
  refine lv_dup hx hb dX6_tapeNumber_31 rfl ?_
  refine va_get (D := (dC, dI)) (ci := 6) (v := .int 17) (C := RX6) (T := TX6) (N := 12) hx hb hts inX6 hown hK hP 0 rfl rfl 1 (by decide) (hts _ pq350) (fun _ h9 => h9) rfl dX6_tapeNumber_32 ?_
  refine lv_iconst (v := 1) hx hb dX6_tapeNumber_35 (by decide +kernel) ?_
  refine lv_iadd hx hb dX6_tapeNumber_36 ?_
  refine lv_topi (fun z14 ez14 => ?_)
  obtain rfl : z14 = 18 := ez14.trans (by decide +kernel)
  refine va_put (D := (dC, dI)) (ci := 6) (v := .int 18) (ty := tyX6 1) (C := RX6) (T := TX6) (N := 12) hx hb hts inX6 tyX6 tyX6_ok nmX6 hown hK hP hD hS 0 rfl rfl 1 (by decide) (hts _ pq350) (fun _ h9 => h9) rfl (by decide +kernel) rfl rfl (Nat.le_of_ble_eq_true rfl) dX6_tapeNumber_37 (fun H locs hP hD hS => ?_)
  have hP : va_P (dC, dI) vwCl [(h0, .inr (6, [.ref tp, .int 18, .ref nw, .ref dr, .ref rd, .ref sc, .ref sk, .ref fl, .ref ps, .int 0, .int 0, .ref sh])), (tp, .inl (kB, 400, .inl f13))] H := hP
  have hD : va_D A [(h0, .inr (6, [.ref tp, .int 18, .ref nw, .ref dr, .ref rd, .ref sc, .ref sk, .ref fl, .ref ps, .int 0, .int 0, .ref sh])), (tp, .inl (kB, 400, .inl f13))] := hD
  refine lv_iinc (v := 8) (lv' := [(2, .int 8), (0, .ref h0), (1, .int p0)]) hx hb dX6_tapeNumber_40 hl (k := 0) rfl (by decide +kernel) (by decide) rfl (fun ls hl => ?_)
  refine lv_goto (tgt := 3) hx hb dX6_tapeNumber_43 (by decide) ?_
  refine lv_iload_n hx hb dX6_tapeNumber_3 rfl (lv_at hl 0 rfl) ?_
  refine lv_if_lt (tgt := 46) hx hb dX6_tapeNumber_4 (by decide) (fun c15 => absurd c15 (by decide +kernel)) (fun c15 => ?_)
  refine lv_aload_n hx hb dX6_tapeNumber_7 rfl (lv_at hl 1 rfl) ?_
  refine va_get (D := (dC, dI)) (ci := 6) (v := .int 18) (C := RX6) (T := TX6) (N := 12) hx hb hts inX6 hown hK hP 0 rfl rfl 1 (by decide) (hts _ pq350) (fun _ h9 => h9) rfl dX6_tapeNumber_8 ?_
  refine lv_sipush (v := 400) hx hb dX6_tapeNumber_11 (by decide +kernel) ?_
  refine lv_icmp_ge (tgt := 46) hx hb dX6_tapeNumber_14 (by decide) (fun c16 => absurd c16 (by decide +kernel)) (fun c16 => ?_)
  refine lv_aload_n hx hb dX6_tapeNumber_17 rfl (lv_at hl 1 rfl) ?_
  refine va_get (D := (dC, dI)) (ci := 6) (v := .ref tp) (C := RX6) (T := TX6) (N := 12) hx hb hts inX6 hown hK hP 0 rfl rfl 0 (by decide) (hts _ pq349) (fun _ h9 => h9) rfl dX6_tapeNumber_18 ?_
  refine lv_aload_n hx hb dX6_tapeNumber_21 rfl (lv_at hl 1 rfl) ?_
  refine va_get (D := (dC, dI)) (ci := 6) (v := .int 18) (C := RX6) (T := TX6) (N := 12) hx hb hts inX6 hown hK hP 0 rfl rfl 1 (by decide) (hts _ pq350) (fun _ h9 => h9) rfl dX6_tapeNumber_22 ?_
  refine lv_iload_n hx hb dX6_tapeNumber_25 rfl (lv_at hl 2 rfl) ?_
  refine lv_iload_n hx hb dX6_tapeNumber_26 rfl (lv_at hl 0 rfl) ?_
  refine lv_ishr hx hb dX6_tapeNumber_27 ?_
  refine lv_topi (fun z17 ez17 => ?_)
  refine lv_i2b hx hb dX6_tapeNumber_28 rfl ?_
  refine lv_topi (fun z19 ez19 => ?_)
  refine va_bast hx hb hK hP hD hS 1 0 rfl rfl (in_d (by decide +kernel)) dX6_tapeNumber_29 (fun H locs hP hD hS => ?_)
  obtain ⟨f20, hP, hD⟩ : ∃ f20 : Nat → Int32, va_P (dC, dI) vwCl [(h0, .inr (6, [.ref tp, .int 18, .ref nw, .ref dr, .ref rd, .ref sc, .ref sk, .ref fl, .ref ps, .int 0, .int 0, .ref sh])), (tp, .inl (kB, 400, .inl f20))] H ∧ va_D A [(h0, .inr (6, [.ref tp, .int 18, .ref nw, .ref dr, .ref rd, .ref sc, .ref sk, .ref fl, .ref ps, .int 0, .int 0, .ref sh])), (tp, .inl (kB, 400, .inl f20))] := ⟨_, hP, hD⟩
  refine lv_aload_n hx hb dX6_tapeNumber_30 rfl (lv_at hl 1 rfl) ?_
  refine lv_dup hx hb dX6_tapeNumber_31 rfl ?_
  refine va_get (D := (dC, dI)) (ci := 6) (v := .int 18) (C := RX6) (T := TX6) (N := 12) hx hb hts inX6 hown hK hP 0 rfl rfl 1 (by decide) (hts _ pq350) (fun _ h9 => h9) rfl dX6_tapeNumber_32 ?_
  refine lv_iconst (v := 1) hx hb dX6_tapeNumber_35 (by decide +kernel) ?_
  refine lv_iadd hx hb dX6_tapeNumber_36 ?_
  refine lv_topi (fun z21 ez21 => ?_)
  obtain rfl : z21 = 19 := ez21.trans (by decide +kernel)
  refine va_put (D := (dC, dI)) (ci := 6) (v := .int 19) (ty := tyX6 1) (C := RX6) (T := TX6) (N := 12) hx hb hts inX6 tyX6 tyX6_ok nmX6 hown hK hP hD hS 0 rfl rfl 1 (by decide) (hts _ pq350) (fun _ h9 => h9) rfl (by decide +kernel) rfl rfl (Nat.le_of_ble_eq_true rfl) dX6_tapeNumber_37 (fun H locs hP hD hS => ?_)
  have hP : va_P (dC, dI) vwCl [(h0, .inr (6, [.ref tp, .int 19, .ref nw, .ref dr, .ref rd, .ref sc, .ref sk, .ref fl, .ref ps, .int 0, .int 0, .ref sh])), (tp, .inl (kB, 400, .inl f20))] H := hP
  have hD : va_D A [(h0, .inr (6, [.ref tp, .int 19, .ref nw, .ref dr, .ref rd, .ref sc, .ref sk, .ref fl, .ref ps, .int 0, .int 0, .ref sh])), (tp, .inl (kB, 400, .inl f20))] := hD
  refine lv_iinc (v := 0) (lv' := [(2, .int 0), (0, .ref h0), (1, .int p0)]) hx hb dX6_tapeNumber_40 hl (k := 0) rfl (by decide +kernel) (by decide) rfl (fun ls hl => ?_)
  refine lv_goto (tgt := 3) hx hb dX6_tapeNumber_43 (by decide) ?_
  refine lv_iload_n hx hb dX6_tapeNumber_3 rfl (lv_at hl 0 rfl) ?_
  refine lv_if_lt (tgt := 46) hx hb dX6_tapeNumber_4 (by decide) (fun c22 => absurd c22 (by decide +kernel)) (fun c22 => ?_)
  refine lv_aload_n hx hb dX6_tapeNumber_7 rfl (lv_at hl 1 rfl) ?_
  refine va_get (D := (dC, dI)) (ci := 6) (v := .int 19) (C := RX6) (T := TX6) (N := 12) hx hb hts inX6 hown hK hP 0 rfl rfl 1 (by decide) (hts _ pq350) (fun _ h9 => h9) rfl dX6_tapeNumber_8 ?_
  refine lv_sipush (v := 400) hx hb dX6_tapeNumber_11 (by decide +kernel) ?_
  refine lv_icmp_ge (tgt := 46) hx hb dX6_tapeNumber_14 (by decide) (fun c23 => absurd c23 (by decide +kernel)) (fun c23 => ?_)
  refine lv_aload_n hx hb dX6_tapeNumber_17 rfl (lv_at hl 1 rfl) ?_
  refine va_get (D := (dC, dI)) (ci := 6) (v := .ref tp) (C := RX6) (T := TX6) (N := 12) hx hb hts inX6 hown hK hP 0 rfl rfl 0 (by decide) (hts _ pq349) (fun _ h9 => h9) rfl dX6_tapeNumber_18 ?_
  refine lv_aload_n hx hb dX6_tapeNumber_21 rfl (lv_at hl 1 rfl) ?_
  refine va_get (D := (dC, dI)) (ci := 6) (v := .int 19) (C := RX6) (T := TX6) (N := 12) hx hb hts inX6 hown hK hP 0 rfl rfl 1 (by decide) (hts _ pq350) (fun _ h9 => h9) rfl dX6_tapeNumber_22 ?_
  refine lv_iload_n hx hb dX6_tapeNumber_25 rfl (lv_at hl 2 rfl) ?_
  refine lv_iload_n hx hb dX6_tapeNumber_26 rfl (lv_at hl 0 rfl) ?_
  refine lv_ishr hx hb dX6_tapeNumber_27 ?_
  refine lv_topi (fun z24 ez24 => ?_)
  refine lv_i2b hx hb dX6_tapeNumber_28 rfl ?_
  refine lv_topi (fun z26 ez26 => ?_)
  refine va_bast hx hb hK hP hD hS 1 0 rfl rfl (in_d (by decide +kernel)) dX6_tapeNumber_29 (fun H locs hP hD hS => ?_)
  obtain ⟨f27, hP, hD⟩ : ∃ f27 : Nat → Int32, va_P (dC, dI) vwCl [(h0, .inr (6, [.ref tp, .int 19, .ref nw, .ref dr, .ref rd, .ref sc, .ref sk, .ref fl, .ref ps, .int 0, .int 0, .ref sh])), (tp, .inl (kB, 400, .inl f27))] H ∧ va_D A [(h0, .inr (6, [.ref tp, .int 19, .ref nw, .ref dr, .ref rd, .ref sc, .ref sk, .ref fl, .ref ps, .int 0, .int 0, .ref sh])), (tp, .inl (kB, 400, .inl f27))] := ⟨_, hP, hD⟩
  refine lv_aload_n hx hb dX6_tapeNumber_30 rfl (lv_at hl 1 rfl) ?_
  refine lv_dup hx hb dX6_tapeNumber_31 rfl ?_
  refine va_get (D := (dC, dI)) (ci := 6) (v := .int 19) (C := RX6) (T := TX6) (N := 12) hx hb hts inX6 hown hK hP 0 rfl rfl 1 (by decide) (hts _ pq350) (fun _ h9 => h9) rfl dX6_tapeNumber_32 ?_
  refine lv_iconst (v := 1) hx hb dX6_tapeNumber_35 (by decide +kernel) ?_
  refine lv_iadd hx hb dX6_tapeNumber_36 ?_
  refine lv_topi (fun z28 ez28 => ?_)
  obtain rfl : z28 = 20 := ez28.trans (by decide +kernel)
  refine va_put (D := (dC, dI)) (ci := 6) (v := .int 20) (ty := tyX6 1) (C := RX6) (T := TX6) (N := 12) hx hb hts inX6 tyX6 tyX6_ok nmX6 hown hK hP hD hS 0 rfl rfl 1 (by decide) (hts _ pq350) (fun _ h9 => h9) rfl (by decide +kernel) rfl rfl (Nat.le_of_ble_eq_true rfl) dX6_tapeNumber_37 (fun H locs hP hD hS => ?_)
  have hP : va_P (dC, dI) vwCl [(h0, .inr (6, [.ref tp, .int 20, .ref nw, .ref dr, .ref rd, .ref sc, .ref sk, .ref fl, .ref ps, .int 0, .int 0, .ref sh])), (tp, .inl (kB, 400, .inl f27))] H := hP
  have hD : va_D A [(h0, .inr (6, [.ref tp, .int 20, .ref nw, .ref dr, .ref rd, .ref sc, .ref sk, .ref fl, .ref ps, .int 0, .int 0, .ref sh])), (tp, .inl (kB, 400, .inl f27))] := hD
  refine lv_iinc (v := (-8)) (lv' := [(2, .int (-8)), (0, .ref h0), (1, .int p0)]) hx hb dX6_tapeNumber_40 hl (k := 0) rfl (by decide +kernel) (by decide) rfl (fun ls hl => ?_)
  refine lv_goto (tgt := 3) hx hb dX6_tapeNumber_43 (by decide) ?_
  refine lv_iload_n hx hb dX6_tapeNumber_3 rfl (lv_at hl 0 rfl) ?_
  refine lv_if_lt (tgt := 46) hx hb dX6_tapeNumber_4 (by decide) (fun c29 => ?_) (fun c29 => absurd (by decide +kernel) c29)
  have hP9 := hP.sub (ws' := [(h0, .inr (6, [.ref tp, .int 20, .ref nw, .ref dr, .ref rd, .ref sc, .ref sk, .ref fl, .ref ps, .int 0, .int 0, .ref sh])), (tp, .inl (kB, 400, .inl f27))]) [0, 1] rfl
  have hD9 := hD.sub (ws' := [(h0, .inr (6, [.ref tp, .int 20, .ref nw, .ref dr, .ref rd, .ref sc, .ref sk, .ref fl, .ref ps, .int 0, .int 0, .ref sh])), (tp, .inl (kB, 400, .inl f27))]) [0, 1] (by decide) rfl
  have hK9 := hK.sub (tys' := [(kB, .byte)]) [0] rfl
  exact W.vret hx hb hr (fun t ht hW => ⟨⟨(), rfl, trivial, ⟨f27, by rw [ht]; exact hP9, va_K.moved hW.alike hK9, hD9⟩⟩, hS.F ht⟩) hS.2.2 dX6_tapeNumber_46

set_option maxHeartbeats 4000000 in
set_option maxRecDepth 100000 in
theorem c_X6_feed (l : Launch) (dC : Nat → ClassId) (dI : Nat → Nat → Nat) (h0 tp nw dr rd sc sk fl ps sh : Nat) (kB : ClassId) (sz : Nat) (p0 : Int32) (p1 : Int32) (p2 : Int32) (p3 : Int32) (p4 : Int32) : Met l yX6_feed (.code yX6_feed cX6_feed 6 (some .int) :: pw) ({ frames := 1, cells := 0, slots := 0, locals := 22 }) (pc (dC, dI) [.ref h0, .int p0, .int p1, .int p2, .int p3, .int p4] sz [(h0, .inr (6, [.ref tp, .int 0, .ref nw, .ref dr, .ref rd, .ref sc, .ref sk, .ref fl, .ref ps, .int 0, .int 0, .ref sh])), (tp, .inl (kB, 400, .inl (fun _ => 0)))] [(kB, .byte)]) (va_Qi (fun (r : Int32) (_ : Unit) => r = 20) (fun _ _ => True) (va_A [(h0, .inr (6, [.ref tp, .int 0, .ref nw, .ref dr, .ref rd, .ref sc, .ref sk, .ref fl, .ref ps, .int 0, .int 0, .ref sh])), (tp, .inl (kB, 400, .inl (fun _ => 0)))] sz)) 0 0 (va_A [(h0, .inr (6, [.ref tp, .int 0, .ref nw, .ref dr, .ref rd, .ref sc, .ref sk, .ref fl, .ref ps, .int 0, .int 0, .ref sh])), (tp, .inl (kB, 400, .inl (fun _ => 0)))] sz) := by
  refine Met.ofW (cc := cX6_feed) (maxL := 6) (ret := (some .int)) (by decide +kernel) rfl ?_
  intro p e s m args below meth c s₁ B hml hv
  obtain ⟨rfl, hsz, hP, hK, hD0, hN⟩ := hv
  have hx := B.exec
  have hb := B.bytes
  have hr := B.returns
  have hts := fun w (h : w ∈ pw) => atoms_spec (ws := Cond.code yX6_feed cX6_feed 6 (some .int) :: pw) B.pre w (List.mem_cons_of_mem _ h)
  have hown : s.vm.findClass RX6 = some m.cls := findClass_of_methodNamed B.named
  have hlocks := B.notSynchronized
  subst hsz
  have hD := hD0.self (sz := s.heap.size)
  generalize hAe : va_A [(h0, .inr (6, [.ref tp, .int 0, .ref nw, .ref dr, .ref rd, .ref sc, .ref sk, .ref fl, .ref ps, .int 0, .int 0, .ref sh])), (tp, .inl (kB, 400, .inl (fun _ => 0)))] s.heap.size = A at hD ⊢
  have hA : ∀ q : Nat, s.heap.size ≤ q → A q := fun q h => by rw [← hAe]; exact Or.inr h
  obtain ⟨H, hHe⟩ : ∃ H : Heap, H = s.heap := ⟨_, rfl⟩
  have hS : va_S A s.heap H [] := by rw [hHe]; exact va_S.rf
  rw [← hHe] at hP
  have hl := lv_entry ([.ref h0, .int p0, .int p1, .int p2, .int p3, .int p4]) (n := 6) (Nat.le_of_ble_eq_true rfl)
  rw [lg_entry_eq]
  generalize (lg_sl ([.ref h0, .int p0, .int p1, .int p2, .int p3, .int p4]) ++ List.replicate (6 - (lg_sl ([.ref h0, .int p0, .int p1, .int p2, .int p3, .int p4])).length) Slot.unset).toArray = ls at hl ⊢
  have hl : lv_has ls 6 [(0, .ref h0), (1, .int p0), (2, .int p1), (3, .int p2), (4, .int p3), (5, .int p4)] := hl
  rw [← hHe]
  refine lv_aload_n hx hb dX6_feed_0 rfl (lv_at hl 0 rfl) ?_
  refine va_get (D := (dC, dI)) (ci := 6) (v := .int 0) (C := RX6) (T := TX6) (N := 12) hx hb hts inX6 hown hK hP 0 rfl rfl 1 (by decide) (hts _ pq350) (fun _ h9 => h9) rfl dX6_feed_1 ?_
  refine lv_bipush (v := 20) hx hb dX6_feed_4 (by decide +kernel) ?_
  refine lv_iadd hx hb dX6_feed_6 ?_
  refine lv_topi (fun z1 ez1 => ?_)
  obtain rfl : z1 = 20 := ez1.trans (by decide +kernel)
  refine lv_sipush (v := 400) hx hb dX6_feed_7 (by decide +kernel) ?_
  refine lv_icmp_le (tgt := 15) hx hb dX6_feed_10 (by decide) (fun c2 => ?_) (fun c2 => absurd (by decide +kernel) c2)
  refine lv_aload_n hx hb dX6_feed_15 rfl (lv_at hl 0 rfl) ?_
  refine lv_iload_n hx hb dX6_feed_16 rfl (lv_at hl 1 rfl) ?_
  have hPc := hP.sub (ws' := [(h0, .inr (6, [.ref tp, .int 0, .ref nw, .ref dr, .ref rd, .ref sc, .ref sk, .ref fl, .ref ps, .int 0, .int 0, .ref sh])), (tp, .inl (kB, 400, .inl (fun _ => 0)))]) [0, 1] rfl
  have hDc := hD.sub (ws' := [(h0, .inr (6, [.ref tp, .int 0, .ref nw, .ref dr, .ref rd, .ref sc, .ref sk, .ref fl, .ref ps, .int 0, .int 0, .ref sh])), (tp, .inl (kB, 400, .inl (fun _ => 0)))]) [0, 1] (by decide) rfl
  have hKc := hK.sub (tys' := [(kB, .byte)]) [0] rfl
  have hFc := va_free (wc := [(h0, .inr (6, [.ref tp, .int 0, .ref nw, .ref dr, .ref rd, .ref sc, .ref sk, .ref fl, .ref ps, .int 0, .int 0, .ref sh])), (tp, .inl (kB, 400, .inl (fun _ => 0)))]) hD hS hA [0, 1] rfl
  refine va_callv (va_runV (As := [.int p0]) (rest := []) ⟨hx, hb, hml, hown, hts⟩ (c_X6_tapeNumber_0 l dC dI h0 tp nw dr rd sc sk fl ps sh kB H.size (fun _ => 0) p0 ) (cwV 1 hts (gV pq390 pq392 pq0 pq74 pq393) rfl rfl rfl (by decide +kernel) ⟨(Nat.le_of_ble_eq_true rfl), (Nat.le_of_ble_eq_true rfl)⟩) (pc_V hPc hDc hKc hN (va_recv hK hP (ci := 6) (q0 := 0) rfl rfl)) rfl rfl hl.1 rfl (lv_room (Nat.le_of_ble_eq_true rfl)) dX6_feed_17 ⟨(Nat.le_of_ble_eq_true rfl), (Nat.le_of_ble_eq_true rfl)⟩) hS (fun q _ h => hFc q h) hFc (fun u t H1 locs ht hvm hw hB hz1 hk1 hS => ?_)
  obtain ⟨f3, hP1, hK1, hD1⟩ := hB
  rw [ht] at hP1
  have hK1 := va_K.moved hvm.symm hK1
  obtain ⟨hP, hD⟩ := va_join (wr := []) (w1 := [(h0, .inr (6, [.ref tp, .int 4, .ref nw, .ref dr, .ref rd, .ref sc, .ref sk, .ref fl, .ref ps, .int 0, .int 0, .ref sh])), (tp, .inl (kB, 400, .inl f3))]) hP hD [0, 1] [] rfl rfl (by decide) (by decide) hk1 hFc hP1 hD1
  generalize H1 = H at hP hS ⊢
  have hP : va_P (dC, dI) vwCl [(h0, .inr (6, [.ref tp, .int 4, .ref nw, .ref dr, .ref rd, .ref sc, .ref sk, .ref fl, .ref ps, .int 0, .int 0, .ref sh])), (tp, .inl (kB, 400, .inl f3))] H := hP
  have hD : va_D A [(h0, .inr (6, [.ref tp, .int 4, .ref nw, .ref dr, .ref rd, .ref sc, .ref sk, .ref fl, .ref ps, .int 0, .int 0, .ref sh])), (tp, .inl (kB, 400, .inl f3))] := hD
  refine lv_aload_n hx hb dX6_feed_20 rfl (lv_at hl 0 rfl) ?_
  refine lv_iload_n hx hb dX6_feed_21 rfl (lv_at hl 2 rfl) ?_
  have hPc := hP.sub (ws' := [(h0, .inr (6, [.ref tp, .int 4, .ref nw, .ref dr, .ref rd, .ref sc, .ref sk, .ref fl, .ref ps, .int 0, .int 0, .ref sh])), (tp, .inl (kB, 400, .inl f3))]) [0, 1] rfl
  have hDc := hD.sub (ws' := [(h0, .inr (6, [.ref tp, .int 4, .ref nw, .ref dr, .ref rd, .ref sc, .ref sk, .ref fl, .ref ps, .int 0, .int 0, .ref sh])), (tp, .inl (kB, 400, .inl f3))]) [0, 1] (by decide) rfl
  have hKc := hK.sub (tys' := [(kB, .byte)]) [0] rfl
  have hFc := va_free (wc := [(h0, .inr (6, [.ref tp, .int 4, .ref nw, .ref dr, .ref rd, .ref sc, .ref sk, .ref fl, .ref ps, .int 0, .int 0, .ref sh])), (tp, .inl (kB, 400, .inl f3))]) hD hS hA [0, 1] rfl
  refine va_callv (va_runV (As := [.int p1]) (rest := []) ⟨hx, hb, hml, hown, hts⟩ (c_X6_tapeNumber_4 l dC dI h0 tp nw dr rd sc sk fl ps sh kB H.size f3 p1 ) (cwV 1 hts (gV pq390 pq392 pq0 pq74 pq393) rfl rfl rfl (by decide +kernel) ⟨(Nat.le_of_ble_eq_true rfl), (Nat.le_of_ble_eq_true rfl)⟩) (pc_V hPc hDc hKc hN (va_recv hK hP (ci := 6) (q0 := 0) rfl rfl)) rfl rfl hl.1 rfl (lv_room (Nat.le_of_ble_eq_true rfl)) dX6_feed_22 ⟨(Nat.le_of_ble_eq_true rfl), (Nat.le_of_ble_eq_true rfl)⟩) hS (fun q _ h => hFc q h) hFc (fun u t H1 locs ht hvm hw hB hz1 hk1 hS => ?_)
  obtain ⟨f4, hP1, hK1, hD1⟩ := hB
  rw [ht] at hP1
  have hK1 := va_K.moved hvm.symm hK1
  obtain ⟨hP, hD⟩ := va_join (wr := []) (w1 := [(h0, .inr (6, [.ref tp, .int 8, .ref nw, .ref dr, .ref rd, .ref sc, .ref sk, .ref fl, .ref ps, .int 0, .int 0, .ref sh])), (tp, .inl (kB, 400, .inl f4))]) hP hD [0, 1] [] rfl rfl (by decide) (by decide) hk1 hFc hP1 hD1
  generalize H1 = H at hP hS ⊢
  have hP : va_P (dC, dI) vwCl [(h0, .inr (6, [.ref tp, .int 8, .ref nw, .ref dr, .ref rd, .ref sc, .ref sk, .ref fl, .ref ps, .int 0, .int 0, .ref sh])), (tp, .inl (kB, 400, .inl f4))] H := hP
  have hD : va_D A [(h0, .inr (6, [.ref tp, .int 8, .ref nw, .ref dr, .ref rd, .ref sc, .ref sk, .ref fl, .ref ps, .int 0, .int 0, .ref sh])), (tp, .inl (kB, 400, .inl f4))] := hD
  refine lv_aload_n hx hb dX6_feed_25 rfl (lv_at hl 0 rfl) ?_
  refine lv_iload_n hx hb dX6_feed_26 rfl (lv_at hl 3 rfl) ?_
  have hPc := hP.sub (ws' := [(h0, .inr (6, [.ref tp, .int 8, .ref nw, .ref dr, .ref rd, .ref sc, .ref sk, .ref fl, .ref ps, .int 0, .int 0, .ref sh])), (tp, .inl (kB, 400, .inl f4))]) [0, 1] rfl
  have hDc := hD.sub (ws' := [(h0, .inr (6, [.ref tp, .int 8, .ref nw, .ref dr, .ref rd, .ref sc, .ref sk, .ref fl, .ref ps, .int 0, .int 0, .ref sh])), (tp, .inl (kB, 400, .inl f4))]) [0, 1] (by decide) rfl
  have hKc := hK.sub (tys' := [(kB, .byte)]) [0] rfl
  have hFc := va_free (wc := [(h0, .inr (6, [.ref tp, .int 8, .ref nw, .ref dr, .ref rd, .ref sc, .ref sk, .ref fl, .ref ps, .int 0, .int 0, .ref sh])), (tp, .inl (kB, 400, .inl f4))]) hD hS hA [0, 1] rfl
  refine va_callv (va_runV (As := [.int p2]) (rest := []) ⟨hx, hb, hml, hown, hts⟩ (c_X6_tapeNumber_8 l dC dI h0 tp nw dr rd sc sk fl ps sh kB H.size f4 p2 ) (cwV 1 hts (gV pq390 pq392 pq0 pq74 pq393) rfl rfl rfl (by decide +kernel) ⟨(Nat.le_of_ble_eq_true rfl), (Nat.le_of_ble_eq_true rfl)⟩) (pc_V hPc hDc hKc hN (va_recv hK hP (ci := 6) (q0 := 0) rfl rfl)) rfl rfl hl.1 rfl (lv_room (Nat.le_of_ble_eq_true rfl)) dX6_feed_27 ⟨(Nat.le_of_ble_eq_true rfl), (Nat.le_of_ble_eq_true rfl)⟩) hS (fun q _ h => hFc q h) hFc (fun u t H1 locs ht hvm hw hB hz1 hk1 hS => ?_)
  obtain ⟨f5, hP1, hK1, hD1⟩ := hB
  rw [ht] at hP1
  have hK1 := va_K.moved hvm.symm hK1
  obtain ⟨hP, hD⟩ := va_join (wr := []) (w1 := [(h0, .inr (6, [.ref tp, .int 12, .ref nw, .ref dr, .ref rd, .ref sc, .ref sk, .ref fl, .ref ps, .int 0, .int 0, .ref sh])), (tp, .inl (kB, 400, .inl f5))]) hP hD [0, 1] [] rfl rfl (by decide) (by decide) hk1 hFc hP1 hD1
  generalize H1 = H at hP hS ⊢
  have hP : va_P (dC, dI) vwCl [(h0, .inr (6, [.ref tp, .int 12, .ref nw, .ref dr, .ref rd, .ref sc, .ref sk, .ref fl, .ref ps, .int 0, .int 0, .ref sh])), (tp, .inl (kB, 400, .inl f5))] H := hP
  have hD : va_D A [(h0, .inr (6, [.ref tp, .int 12, .ref nw, .ref dr, .ref rd, .ref sc, .ref sk, .ref fl, .ref ps, .int 0, .int 0, .ref sh])), (tp, .inl (kB, 400, .inl f5))] := hD
  refine lv_aload_n hx hb dX6_feed_30 rfl (lv_at hl 0 rfl) ?_
  refine lv_iload hx hb dX6_feed_31 (lv_at hl 4 rfl) ?_
  have hPc := hP.sub (ws' := [(h0, .inr (6, [.ref tp, .int 12, .ref nw, .ref dr, .ref rd, .ref sc, .ref sk, .ref fl, .ref ps, .int 0, .int 0, .ref sh])), (tp, .inl (kB, 400, .inl f5))]) [0, 1] rfl
  have hDc := hD.sub (ws' := [(h0, .inr (6, [.ref tp, .int 12, .ref nw, .ref dr, .ref rd, .ref sc, .ref sk, .ref fl, .ref ps, .int 0, .int 0, .ref sh])), (tp, .inl (kB, 400, .inl f5))]) [0, 1] (by decide) rfl
  have hKc := hK.sub (tys' := [(kB, .byte)]) [0] rfl
  have hFc := va_free (wc := [(h0, .inr (6, [.ref tp, .int 12, .ref nw, .ref dr, .ref rd, .ref sc, .ref sk, .ref fl, .ref ps, .int 0, .int 0, .ref sh])), (tp, .inl (kB, 400, .inl f5))]) hD hS hA [0, 1] rfl
  refine va_callv (va_runV (As := [.int p3]) (rest := []) ⟨hx, hb, hml, hown, hts⟩ (c_X6_tapeNumber_12 l dC dI h0 tp nw dr rd sc sk fl ps sh kB H.size f5 p3 ) (cwV 1 hts (gV pq390 pq392 pq0 pq74 pq393) rfl rfl rfl (by decide +kernel) ⟨(Nat.le_of_ble_eq_true rfl), (Nat.le_of_ble_eq_true rfl)⟩) (pc_V hPc hDc hKc hN (va_recv hK hP (ci := 6) (q0 := 0) rfl rfl)) rfl rfl hl.1 rfl (lv_room (Nat.le_of_ble_eq_true rfl)) dX6_feed_33 ⟨(Nat.le_of_ble_eq_true rfl), (Nat.le_of_ble_eq_true rfl)⟩) hS (fun q _ h => hFc q h) hFc (fun u t H1 locs ht hvm hw hB hz1 hk1 hS => ?_)
  obtain ⟨f6, hP1, hK1, hD1⟩ := hB
  rw [ht] at hP1
  have hK1 := va_K.moved hvm.symm hK1
  obtain ⟨hP, hD⟩ := va_join (wr := []) (w1 := [(h0, .inr (6, [.ref tp, .int 16, .ref nw, .ref dr, .ref rd, .ref sc, .ref sk, .ref fl, .ref ps, .int 0, .int 0, .ref sh])), (tp, .inl (kB, 400, .inl f6))]) hP hD [0, 1] [] rfl rfl (by decide) (by decide) hk1 hFc hP1 hD1
  generalize H1 = H at hP hS ⊢
  have hP : va_P (dC, dI) vwCl [(h0, .inr (6, [.ref tp, .int 16, .ref nw, .ref dr, .ref rd, .ref sc, .ref sk, .ref fl, .ref ps, .int 0, .int 0, .ref sh])), (tp, .inl (kB, 400, .inl f6))] H := hP
  have hD : va_D A [(h0, .inr (6, [.ref tp, .int 16, .ref nw, .ref dr, .ref rd, .ref sc, .ref sk, .ref fl, .ref ps, .int 0, .int 0, .ref sh])), (tp, .inl (kB, 400, .inl f6))] := hD
  refine lv_aload_n hx hb dX6_feed_36 rfl (lv_at hl 0 rfl) ?_
  refine lv_iload hx hb dX6_feed_37 (lv_at hl 5 rfl) ?_
  have hPc := hP.sub (ws' := [(h0, .inr (6, [.ref tp, .int 16, .ref nw, .ref dr, .ref rd, .ref sc, .ref sk, .ref fl, .ref ps, .int 0, .int 0, .ref sh])), (tp, .inl (kB, 400, .inl f6))]) [0, 1] rfl
  have hDc := hD.sub (ws' := [(h0, .inr (6, [.ref tp, .int 16, .ref nw, .ref dr, .ref rd, .ref sc, .ref sk, .ref fl, .ref ps, .int 0, .int 0, .ref sh])), (tp, .inl (kB, 400, .inl f6))]) [0, 1] (by decide) rfl
  have hKc := hK.sub (tys' := [(kB, .byte)]) [0] rfl
  have hFc := va_free (wc := [(h0, .inr (6, [.ref tp, .int 16, .ref nw, .ref dr, .ref rd, .ref sc, .ref sk, .ref fl, .ref ps, .int 0, .int 0, .ref sh])), (tp, .inl (kB, 400, .inl f6))]) hD hS hA [0, 1] rfl
  refine va_callv (va_runV (As := [.int p4]) (rest := []) ⟨hx, hb, hml, hown, hts⟩ (c_X6_tapeNumber_16 l dC dI h0 tp nw dr rd sc sk fl ps sh kB H.size f6 p4 ) (cwV 1 hts (gV pq390 pq392 pq0 pq74 pq393) rfl rfl rfl (by decide +kernel) ⟨(Nat.le_of_ble_eq_true rfl), (Nat.le_of_ble_eq_true rfl)⟩) (pc_V hPc hDc hKc hN (va_recv hK hP (ci := 6) (q0 := 0) rfl rfl)) rfl rfl hl.1 rfl (lv_room (Nat.le_of_ble_eq_true rfl)) dX6_feed_39 ⟨(Nat.le_of_ble_eq_true rfl), (Nat.le_of_ble_eq_true rfl)⟩) hS (fun q _ h => hFc q h) hFc (fun u t H1 locs ht hvm hw hB hz1 hk1 hS => ?_)
  obtain ⟨f7, hP1, hK1, hD1⟩ := hB
  rw [ht] at hP1
  have hK1 := va_K.moved hvm.symm hK1
  obtain ⟨hP, hD⟩ := va_join (wr := []) (w1 := [(h0, .inr (6, [.ref tp, .int 20, .ref nw, .ref dr, .ref rd, .ref sc, .ref sk, .ref fl, .ref ps, .int 0, .int 0, .ref sh])), (tp, .inl (kB, 400, .inl f7))]) hP hD [0, 1] [] rfl rfl (by decide) (by decide) hk1 hFc hP1 hD1
  generalize H1 = H at hP hS ⊢
  have hP : va_P (dC, dI) vwCl [(h0, .inr (6, [.ref tp, .int 20, .ref nw, .ref dr, .ref rd, .ref sc, .ref sk, .ref fl, .ref ps, .int 0, .int 0, .ref sh])), (tp, .inl (kB, 400, .inl f7))] H := hP
  have hD : va_D A [(h0, .inr (6, [.ref tp, .int 20, .ref nw, .ref dr, .ref rd, .ref sc, .ref sk, .ref fl, .ref ps, .int 0, .int 0, .ref sh])), (tp, .inl (kB, 400, .inl f7))] := hD
  refine lv_aload_n hx hb dX6_feed_42 rfl (lv_at hl 0 rfl) ?_
  refine va_get (D := (dC, dI)) (ci := 6) (v := .int 20) (C := RX6) (T := TX6) (N := 12) hx hb hts inX6 hown hK hP 0 rfl rfl 1 (by decide) (hts _ pq350) (fun _ h9 => h9) rfl dX6_feed_43 ?_
  exact W.iret (v := 20) hx hb hr (fun t ht hW => ⟨⟨20, (), rfl, rfl, trivial⟩, hS.F ht⟩) hS.2.2 dX6_feed_46
end
section
def yX6_replaceBy : MethodName := ⟨RX6, "replaceBy", "(LMaskTouch$Field;)V"⟩
def yX4_readField : MethodName := ⟨RX4, "readField", "(ILMaskTouch$Field;)I"⟩
abbrev cX4_readField : ByteArray := prog_6_method_2_code
def yX1_clear : MethodName := ⟨RX1, "clear", "()V"⟩
abbrev cX1_clear : ByteArray := prog_3_method_2_code
def yX4_isAtEnd : MethodName := ⟨RX4, "isAtEnd", "()Z"⟩
abbrev cX4_isAtEnd : ByteArray := prog_6_method_19_code
def yX4_skipBlanks : MethodName := ⟨RX4, "skipBlanks", "()V"⟩
abbrev cX4_skipBlanks : ByteArray := prog_6_method_20_code
abbrev cX6_replaceBy : ByteArray := prog_1_method_27_code
def yX1_become : MethodName := ⟨RX1, "become", "(LMaskTouch$Field;)V"⟩
abbrev cX1_become : ByteArray := prog_3_method_3_code
def yX5_redraw : MethodName := ⟨RX5, "redraw", "()V"⟩
abbrev cX5_redraw : ByteArray := prog_7_method_2_code
abbrev cX6_keep : ByteArray := prog_1_method_25_code
abbrev cX6_remember : ByteArray := prog_1_method_28_code
abbrev cX6_tell : ByteArray := prog_1_method_5_code
def yX6_keep : MethodName := ⟨RX6, "keep", "(I)I"⟩
def yX6_remember : MethodName := ⟨RX6, "remember", "()V"⟩
def yX6_tell : MethodName := ⟨RX6, "tell", "()I"⟩
theorem dX1_become_0 : decode cX1_become 0 = .ok (.aload_n 0, 1) := by decide +kernel
theorem dX1_become_1 : decode cX1_become 1 = .ok (.aload_n 1, 1) := by decide +kernel
theorem dX1_become_2 : decode cX1_become 2 = .ok (.getfield 23, 3) := by decide +kernel
theorem dX1_become_5 : decode cX1_become 5 = .ok (.putfield 23, 3) := by decide +kernel
theorem dX1_become_8 : decode cX1_become 8 = .ok (.aload_n 0, 1) := by decide +kernel
theorem dX1_become_9 : decode cX1_become 9 = .ok (.aload_n 1, 1) := by decide +kernel
theorem dX1_become_10 : decode cX1_become 10 = .ok (.getfield 27, 3) := by decide +kernel
theorem dX1_become_13 : decode cX1_become 13 = .ok (.putfield 27, 3) := by decide +kernel
theorem dX1_become_16 : decode cX1_become 16 = .ok (.aload_n 0, 1) := by decide +kernel
theorem dX1_become_17 : decode cX1_become 17 = .ok (.aload_n 1, 1) := by decide +kernel
theorem dX1_become_18 : decode cX1_become 18 = .ok (.getfield 30, 3) := by decide +kernel
theorem dX1_become_21 : decode cX1_become 21 = .ok (.putfield 30, 3) := by decide +kernel
theorem dX1_become_24 : decode cX1_become 24 = .ok (.iconst 0, 1) := by decide +kernel
theorem dX1_become_25 : decode cX1_become 25 = .ok (.istore_n 2, 1) := by decide +kernel
theorem dX1_become_26 : decode cX1_become 26 = .ok (.iload_n 2, 1) := by decide +kernel
theorem dX1_become_27 : decode cX1_become 27 = .ok (.aload_n 0, 1) := by decide +kernel
theorem dX1_become_28 : decode cX1_become 28 = .ok (.getfield 23, 3) := by decide +kernel
theorem dX1_become_31 : decode cX1_become 31 = .ok (.if_icmp .ge 24, 3) := by decide +kernel
theorem dX1_become_55 : decode cX1_become 55 = .ok (.iconst 0, 1) := by decide +kernel
theorem dX1_become_56 : decode cX1_become 56 = .ok (.istore_n 2, 1) := by decide +kernel
theorem dX1_become_57 : decode cX1_become 57 = .ok (.iload_n 2, 1) := by decide +kernel
theorem dX1_become_58 : decode cX1_become 58 = .ok (.aload_n 0, 1) := by decide +kernel
theorem dX1_become_59 : decode cX1_become 59 = .ok (.getfield 27, 3) := by decide +kernel
theorem dX1_become_62 : decode cX1_become 62 = .ok (.if_icmp .ge 24, 3) := by decide +kernel
theorem dX1_become_86 : decode cX1_become 86 = .ok (.return_, 1) := by decide +kernel
theorem dX1_clear_0 : decode cX1_clear 0 = .ok (.aload_n 0, 1) := by decide +kernel
theorem dX1_clear_1 : decode cX1_clear 1 = .ok (.iconst 0, 1) := by decide +kernel
theorem dX1_clear_2 : decode cX1_clear 2 = .ok (.putfield 23, 3) := by decide +kernel
theorem dX1_clear_5 : decode cX1_clear 5 = .ok (.aload_n 0, 1) := by decide +kernel
theorem dX1_clear_6 : decode cX1_clear 6 = .ok (.iconst 0, 1) := by decide +kernel
theorem dX1_clear_7 : decode cX1_clear 7 = .ok (.putfield 27, 3) := by decide +kernel
theorem dX1_clear_10 : decode cX1_clear 10 = .ok (.aload_n 0, 1) := by decide +kernel
theorem dX1_clear_11 : decode cX1_clear 11 = .ok (.iconst 0, 1) := by decide +kernel
theorem dX1_clear_12 : decode cX1_clear 12 = .ok (.putfield 30, 3) := by decide +kernel
theorem dX1_clear_15 : decode cX1_clear 15 = .ok (.return_, 1) := by decide +kernel
theorem dX4_isAtEnd_0 : decode cX4_isAtEnd 0 = .ok (.aload_n 0, 1) := by decide +kernel
theorem dX4_isAtEnd_1 : decode cX4_isAtEnd 1 = .ok (.invokevirtual 46, 3) := by decide +kernel
theorem dX4_isAtEnd_4 : decode cX4_isAtEnd 4 = .ok (.aload_n 0, 1) := by decide +kernel
theorem dX4_isAtEnd_5 : decode cX4_isAtEnd 5 = .ok (.getfield 15, 3) := by decide +kernel
theorem dX4_isAtEnd_8 : decode cX4_isAtEnd 8 = .ok (.aload_n 0, 1) := by decide +kernel
theorem dX4_isAtEnd_9 : decode cX4_isAtEnd 9 = .ok (.getfield 9, 3) := by decide +kernel
theorem dX4_isAtEnd_12 : decode cX4_isAtEnd 12 = .ok (.if_icmp .lt 7, 3) := by decide +kernel
theorem dX4_isAtEnd_15 : decode cX4_isAtEnd 15 = .ok (.iconst 1, 1) := by decide +kernel
theorem dX4_isAtEnd_16 : decode cX4_isAtEnd 16 = .ok (.goto 4, 3) := by decide +kernel
theorem dX4_isAtEnd_20 : decode cX4_isAtEnd 20 = .ok (.ireturn, 1) := by decide +kernel
theorem dX4_readField_0 : decode cX4_readField 0 = .ok (.aload_n 0, 1) := by decide +kernel
theorem dX4_readField_1 : decode cX4_readField 1 = .ok (.iload_n 1, 1) := by decide +kernel
theorem dX4_readField_2 : decode cX4_readField 2 = .ok (.aload_n 0, 1) := by decide +kernel
theorem dX4_readField_3 : decode cX4_readField 3 = .ok (.getfield 27, 3) := by decide +kernel
theorem dX4_readField_6 : decode cX4_readField 6 = .ok (.arraylength, 1) := by decide +kernel
theorem dX4_readField_7 : decode cX4_readField 7 = .ok (.invokestatic 31, 3) := by decide +kernel
theorem dX4_readField_10 : decode cX4_readField 10 = .ok (.putfield 9, 3) := by decide +kernel
theorem dX4_readField_13 : decode cX4_readField 13 = .ok (.aload_n 0, 1) := by decide +kernel
theorem dX4_readField_14 : decode cX4_readField 14 = .ok (.iconst 0, 1) := by decide +kernel
theorem dX4_readField_15 : decode cX4_readField 15 = .ok (.putfield 15, 3) := by decide +kernel
theorem dX4_readField_18 : decode cX4_readField 18 = .ok (.aload_n 0, 1) := by decide +kernel
theorem dX4_readField_19 : decode cX4_readField 19 = .ok (.iconst 0, 1) := by decide +kernel
theorem dX4_readField_20 : decode cX4_readField 20 = .ok (.putfield 24, 3) := by decide +kernel
theorem dX4_readField_23 : decode cX4_readField 23 = .ok (.aload_n 2, 1) := by decide +kernel
theorem dX4_readField_24 : decode cX4_readField 24 = .ok (.invokevirtual 37, 3) := by decide +kernel
theorem dX4_readField_27 : decode cX4_readField 27 = .ok (.aload_n 0, 1) := by decide +kernel
theorem dX4_readField_28 : decode cX4_readField 28 = .ok (.invokevirtual 42, 3) := by decide +kernel
theorem dX4_readField_31 : decode cX4_readField 31 = .ok (.ifCond .eq 8, 3) := by decide +kernel
theorem dX4_readField_34 : decode cX4_readField 34 = .ok (.aload_n 0, 1) := by decide +kernel
theorem dX4_readField_35 : decode cX4_readField 35 = .ok (.getfield 24, 3) := by decide +kernel
theorem dX4_readField_38 : decode cX4_readField 38 = .ok (.ireturn, 1) := by decide +kernel
theorem dX4_skipBlanks_0 : decode cX4_skipBlanks 0 = .ok (.aload_n 0, 1) := by decide +kernel
theorem dX4_skipBlanks_1 : decode cX4_skipBlanks 1 = .ok (.getfield 15, 3) := by decide +kernel
theorem dX4_skipBlanks_4 : decode cX4_skipBlanks 4 = .ok (.aload_n 0, 1) := by decide +kernel
theorem dX4_skipBlanks_5 : decode cX4_skipBlanks 5 = .ok (.getfield 9, 3) := by decide +kernel
theorem dX4_skipBlanks_8 : decode cX4_skipBlanks 8 = .ok (.if_icmp .ge 30, 3) := by decide +kernel
theorem dX4_skipBlanks_38 : decode cX4_skipBlanks 38 = .ok (.return_, 1) := by decide +kernel
theorem dX5_redraw_0 : decode cX5_redraw 0 = .ok (.iconst 0, 1) := by decide +kernel
theorem dX5_redraw_1 : decode cX5_redraw 1 = .ok (.istore_n 1, 1) := by decide +kernel
theorem dX5_redraw_2 : decode cX5_redraw 2 = .ok (.iload_n 1, 1) := by decide +kernel
theorem dX5_redraw_3 : decode cX5_redraw 3 = .ok (.aload_n 0, 1) := by decide +kernel
theorem dX5_redraw_4 : decode cX5_redraw 4 = .ok (.getfield 39, 3) := by decide +kernel
theorem dX5_redraw_7 : decode cX5_redraw 7 = .ok (.getfield 44, 3) := by decide +kernel
theorem dX5_redraw_10 : decode cX5_redraw 10 = .ok (.if_icmp .ge 44, 3) := by decide +kernel
theorem dX5_redraw_54 : decode cX5_redraw 54 = .ok (.return_, 1) := by decide +kernel
theorem dX6_keep_0 : decode cX6_keep 0 = .ok (.iload_n 1, 1) := by decide +kernel
theorem dX6_keep_1 : decode cX6_keep 1 = .ok (.iconst 1, 1) := by decide +kernel
theorem dX6_keep_2 : decode cX6_keep 2 = .ok (.invokestatic 109, 3) := by decide +kernel
theorem dX6_keep_5 : decode cX6_keep 5 = .ok (.ifCond .ne 5, 3) := by decide +kernel
theorem dX6_keep_8 : decode cX6_keep 8 = .ok (.iconst (-1), 1) := by decide +kernel
theorem dX6_keep_9 : decode cX6_keep 9 = .ok (.ireturn, 1) := by decide +kernel
theorem dX6_keep_10 : decode cX6_keep 10 = .ok (.aload_n 0, 1) := by decide +kernel
theorem dX6_keep_11 : decode cX6_keep 11 = .ok (.getfield 69, 3) := by decide +kernel
theorem dX6_keep_14 : decode cX6_keep 14 = .ok (.iload_n 1, 1) := by decide +kernel
theorem dX6_keep_15 : decode cX6_keep 15 = .ok (.aaload, 1) := by decide +kernel
theorem dX6_keep_16 : decode cX6_keep 16 = .ok (.astore_n 2, 1) := by decide +kernel
theorem dX6_keep_17 : decode cX6_keep 17 = .ok (.aload_n 2, 1) := by decide +kernel
theorem dX6_keep_18 : decode cX6_keep 18 = .ok (.ifnonnull 18, 3) := by decide +kernel
theorem dX6_keep_21 : decode cX6_keep 21 = .ok (.new 17, 3) := by decide +kernel
theorem dX6_keep_24 : decode cX6_keep 24 = .ok (.dup, 1) := by decide +kernel
theorem dX6_keep_25 : decode cX6_keep 25 = .ok (.invokespecial 19, 3) := by decide +kernel
theorem dX6_keep_28 : decode cX6_keep 28 = .ok (.astore_n 2, 1) := by decide +kernel
theorem dX6_keep_29 : decode cX6_keep 29 = .ok (.aload_n 0, 1) := by decide +kernel
theorem dX6_keep_30 : decode cX6_keep 30 = .ok (.getfield 69, 3) := by decide +kernel
theorem dX6_keep_33 : decode cX6_keep 33 = .ok (.iload_n 1, 1) := by decide +kernel
theorem dX6_keep_34 : decode cX6_keep 34 = .ok (.aload_n 2, 1) := by decide +kernel
theorem dX6_keep_35 : decode cX6_keep 35 = .ok (.aastore, 1) := by decide +kernel
theorem dX6_keep_36 : decode cX6_keep 36 = .ok (.aload_n 2, 1) := by decide +kernel
theorem dX6_keep_37 : decode cX6_keep 37 = .ok (.aload_n 0, 1) := by decide +kernel
theorem dX6_keep_38 : decode cX6_keep 38 = .ok (.getfield 20, 3) := by decide +kernel
theorem dX6_keep_41 : decode cX6_keep 41 = .ok (.invokevirtual 238, 3) := by decide +kernel
theorem dX6_keep_44 : decode cX6_keep 44 = .ok (.aload_n 0, 1) := by decide +kernel
theorem dX6_keep_45 : decode cX6_keep 45 = .ok (.getfield 20, 3) := by decide +kernel
theorem dX6_keep_48 : decode cX6_keep 48 = .ok (.getfield 83, 3) := by decide +kernel
theorem dX6_keep_51 : decode cX6_keep 51 = .ok (.ireturn, 1) := by decide +kernel
theorem dX6_remember_0 : decode cX6_remember 0 = .ok (.aload_n 0, 1) := by decide +kernel
theorem dX6_remember_1 : decode cX6_remember 1 = .ok (.getfield 66, 3) := by decide +kernel
theorem dX6_remember_4 : decode cX6_remember 4 = .ok (.bipush 10, 2) := by decide +kernel
theorem dX6_remember_6 : decode cX6_remember 6 = .ok (.if_icmp .ne 26, 3) := by decide +kernel
theorem dX6_remember_32 : decode cX6_remember 32 = .ok (.aload_n 0, 1) := by decide +kernel
theorem dX6_remember_33 : decode cX6_remember 33 = .ok (.getfield 63, 3) := by decide +kernel
theorem dX6_remember_36 : decode cX6_remember 36 = .ok (.aload_n 0, 1) := by decide +kernel
theorem dX6_remember_37 : decode cX6_remember 37 = .ok (.getfield 66, 3) := by decide +kernel
theorem dX6_remember_40 : decode cX6_remember 40 = .ok (.iadd, 1) := by decide +kernel
theorem dX6_remember_41 : decode cX6_remember 41 = .ok (.bipush 10, 2) := by decide +kernel
theorem dX6_remember_43 : decode cX6_remember 43 = .ok (.irem, 1) := by decide +kernel
theorem dX6_remember_44 : decode cX6_remember 44 = .ok (.istore_n 1, 1) := by decide +kernel
theorem dX6_remember_45 : decode cX6_remember 45 = .ok (.aload_n 0, 1) := by decide +kernel
theorem dX6_remember_46 : decode cX6_remember 46 = .ok (.getfield 59, 3) := by decide +kernel
theorem dX6_remember_49 : decode cX6_remember 49 = .ok (.iload_n 1, 1) := by decide +kernel
theorem dX6_remember_50 : decode cX6_remember 50 = .ok (.aaload, 1) := by decide +kernel
theorem dX6_remember_51 : decode cX6_remember 51 = .ok (.astore_n 2, 1) := by decide +kernel
theorem dX6_remember_52 : decode cX6_remember 52 = .ok (.aload_n 2, 1) := by decide +kernel
theorem dX6_remember_53 : decode cX6_remember 53 = .ok (.ifnonnull 18, 3) := by decide +kernel
theorem dX6_remember_56 : decode cX6_remember 56 = .ok (.new 17, 3) := by decide +kernel
theorem dX6_remember_59 : decode cX6_remember 59 = .ok (.dup, 1) := by decide +kernel
theorem dX6_remember_60 : decode cX6_remember 60 = .ok (.invokespecial 19, 3) := by decide +kernel
theorem dX6_remember_63 : decode cX6_remember 63 = .ok (.astore_n 2, 1) := by decide +kernel
theorem dX6_remember_64 : decode cX6_remember 64 = .ok (.aload_n 0, 1) := by decide +kernel
theorem dX6_remember_65 : decode cX6_remember 65 = .ok (.getfield 59, 3) := by decide +kernel
theorem dX6_remember_68 : decode cX6_remember 68 = .ok (.iload_n 1, 1) := by decide +kernel
theorem dX6_remember_69 : decode cX6_remember 69 = .ok (.aload_n 2, 1) := by decide +kernel
theorem dX6_remember_70 : decode cX6_remember 70 = .ok (.aastore, 1) := by decide +kernel
theorem dX6_remember_71 : decode cX6_remember 71 = .ok (.aload_n 2, 1) := by decide +kernel
theorem dX6_remember_72 : decode cX6_remember 72 = .ok (.aload_n 0, 1) := by decide +kernel
theorem dX6_remember_73 : decode cX6_remember 73 = .ok (.getfield 20, 3) := by decide +kernel
theorem dX6_remember_76 : decode cX6_remember 76 = .ok (.invokevirtual 238, 3) := by decide +kernel
theorem dX6_remember_79 : decode cX6_remember 79 = .ok (.aload_n 0, 1) := by decide +kernel
theorem dX6_remember_80 : decode cX6_remember 80 = .ok (.dup, 1) := by decide +kernel
theorem dX6_remember_81 : decode cX6_remember 81 = .ok (.getfield 66, 3) := by decide +kernel
theorem dX6_remember_84 : decode cX6_remember 84 = .ok (.iconst 1, 1) := by decide +kernel
theorem dX6_remember_85 : decode cX6_remember 85 = .ok (.iadd, 1) := by decide +kernel
theorem dX6_remember_86 : decode cX6_remember 86 = .ok (.putfield 66, 3) := by decide +kernel
theorem dX6_remember_89 : decode cX6_remember 89 = .ok (.return_, 1) := by decide +kernel
theorem dX6_replaceBy_0 : decode cX6_replaceBy 0 = .ok (.aload_n 0, 1) := by decide +kernel
theorem dX6_replaceBy_1 : decode cX6_replaceBy 1 = .ok (.getfield 20, 3) := by decide +kernel
theorem dX6_replaceBy_4 : decode cX6_replaceBy 4 = .ok (.aload_n 1, 1) := by decide +kernel
theorem dX6_replaceBy_5 : decode cX6_replaceBy 5 = .ok (.invokevirtual 238, 3) := by decide +kernel
theorem dX6_replaceBy_8 : decode cX6_replaceBy 8 = .ok (.aload_n 0, 1) := by decide +kernel
theorem dX6_replaceBy_9 : decode cX6_replaceBy 9 = .ok (.getfield 41, 3) := by decide +kernel
theorem dX6_replaceBy_12 : decode cX6_replaceBy 12 = .ok (.invokevirtual 115, 3) := by decide +kernel
theorem dX6_replaceBy_15 : decode cX6_replaceBy 15 = .ok (.aload_n 0, 1) := by decide +kernel
theorem dX6_replaceBy_16 : decode cX6_replaceBy 16 = .ok (.iconst 0, 1) := by decide +kernel
theorem dX6_replaceBy_17 : decode cX6_replaceBy 17 = .ok (.putfield 66, 3) := by decide +kernel
theorem dX6_replaceBy_20 : decode cX6_replaceBy 20 = .ok (.return_, 1) := by decide +kernel
theorem dX6_tell_0 : decode cX6_tell 0 = .ok (.aload_n 0, 1) := by decide +kernel
theorem dX6_tell_1 : decode cX6_tell 1 = .ok (.getfield 32, 3) := by decide +kernel
theorem dX6_tell_4 : decode cX6_tell 4 = .ok (.aload_n 0, 1) := by decide +kernel
theorem dX6_tell_5 : decode cX6_tell 5 = .ok (.getfield 13, 3) := by decide +kernel
theorem dX6_tell_8 : decode cX6_tell 8 = .ok (.aload_n 0, 1) := by decide +kernel
theorem dX6_tell_9 : decode cX6_tell 9 = .ok (.getfield 24, 3) := by decide +kernel
theorem dX6_tell_12 : decode cX6_tell 12 = .ok (.invokevirtual 76, 3) := by decide +kernel
theorem dX6_tell_15 : decode cX6_tell 15 = .ok (.istore_n 1, 1) := by decide +kernel
theorem dX6_tell_16 : decode cX6_tell 16 = .ok (.aload_n 0, 1) := by decide +kernel
theorem dX6_tell_17 : decode cX6_tell 17 = .ok (.iconst 0, 1) := by decide +kernel
theorem dX6_tell_18 : decode cX6_tell 18 = .ok (.putfield 13, 3) := by decide +kernel
theorem dX6_tell_21 : decode cX6_tell 21 = .ok (.iload_n 1, 1) := by decide +kernel
theorem dX6_tell_22 : decode cX6_tell 22 = .ok (.ifCond .eq 8, 3) := by decide +kernel
theorem dX6_tell_30 : decode cX6_tell 30 = .ok (.aload_n 0, 1) := by decide +kernel
theorem dX6_tell_31 : decode cX6_tell 31 = .ok (.aload_n 0, 1) := by decide +kernel
theorem dX6_tell_32 : decode cX6_tell 32 = .ok (.getfield 24, 3) := by decide +kernel
theorem dX6_tell_35 : decode cX6_tell 35 = .ok (.invokevirtual 80, 3) := by decide +kernel
theorem dX6_tell_38 : decode cX6_tell 38 = .ok (.aload_n 0, 1) := by decide +kernel
theorem dX6_tell_39 : decode cX6_tell 39 = .ok (.getfield 20, 3) := by decide +kernel
theorem dX6_tell_42 : decode cX6_tell 42 = .ok (.getfield 83, 3) := by decide +kernel
theorem dX6_tell_45 : decode cX6_tell 45 = .ok (.ireturn, 1) := by decide +kernel
set_option maxRecDepth 100000 in
theorem pq1 : Cond.selects RX6 yX6_replaceBy yX6_replaceBy ∈ pw := pw_mem (i := 1) (by decide +kernel) rfl
set_option maxRecDepth 100000 in
theorem pq82 : Cond.initialized RJ9 ∈ pw := pw_mem (i := 82) (by decide +kernel) rfl
set_option maxRecDepth 100000 in
theorem pq225 : Cond.fieldLink RX5 44 "MaskTouch$Field" "bodyCount" "I" ∈ pw := pw_mem (i := 225) (by decide +kernel) rfl
set_option maxRecDepth 100000 in
theorem pq402 : Cond.methodLink RX6 76 yX4_readField ∈ pw := pw_mem (i := 402) (by decide +kernel) rfl
set_option maxRecDepth 100000 in
theorem pq403 : Cond.instanceMethod yX4_readField ∈ pw := pw_mem (i := 403) (by decide +kernel) rfl
set_option maxRecDepth 100000 in
theorem pq404 : Cond.selects RX4 yX4_readField yX4_readField ∈ pw := pw_mem (i := 404) (by decide +kernel) rfl
set_option maxRecDepth 100000 in
theorem pq405 : Cond.code yX4_readField cX4_readField 5 (some .int) ∈ pw := pw_mem (i := 405) (by rfl) rfl
set_option maxRecDepth 100000 in
theorem pq406 : Cond.methodLink RX4 31 Lib.Math.min.name ∈ pw := pw_mem (i := 406) (by decide +kernel) rfl
set_option maxRecDepth 100000 in
theorem pq407 : Cond.static Lib.Math.min.name ∈ pw := pw_mem (i := 407) (by decide +kernel) rfl
set_option maxRecDepth 100000 in
theorem pq408 : Cond.code Lib.Math.min.name Lib.Math.min.code 2 (some .int) ∈ pw := pw_mem (i := 408) (by rfl) rfl
set_option maxRecDepth 100000 in
theorem pq409 : Cond.methodLink RX4 37 yX1_clear ∈ pw := pw_mem (i := 409) (by decide +kernel) rfl
set_option maxRecDepth 100000 in
theorem pq410 : Cond.instanceMethod yX1_clear ∈ pw := pw_mem (i := 410) (by decide +kernel) rfl
set_option maxRecDepth 100000 in
theorem pq411 : Cond.selects RX1 yX1_clear yX1_clear ∈ pw := pw_mem (i := 411) (by decide +kernel) rfl
set_option maxRecDepth 100000 in
theorem pq412 : Cond.code yX1_clear cX1_clear 1 none ∈ pw := pw_mem (i := 412) (by rfl) rfl
set_option maxRecDepth 100000 in
theorem pq413 : Cond.methodLink RX4 42 yX4_isAtEnd ∈ pw := pw_mem (i := 413) (by decide +kernel) rfl
set_option maxRecDepth 100000 in
theorem pq414 : Cond.instanceMethod yX4_isAtEnd ∈ pw := pw_mem (i := 414) (by decide +kernel) rfl
set_option maxRecDepth 100000 in
theorem pq415 : Cond.selects RX4 yX4_isAtEnd yX4_isAtEnd ∈ pw := pw_mem (i := 415) (by decide +kernel) rfl
set_option maxRecDepth 100000 in
theorem pq416 : Cond.code yX4_isAtEnd cX4_isAtEnd 1 (some .boolean) ∈ pw := pw_mem (i := 416) (by rfl) rfl
set_option maxRecDepth 100000 in
theorem pq417 : Cond.methodLink RX4 46 yX4_skipBlanks ∈ pw := pw_mem (i := 417) (by decide +kernel) rfl
set_option maxRecDepth 100000 in
theorem pq418 : Cond.instanceMethod yX4_skipBlanks ∈ pw := pw_mem (i := 418) (by decide +kernel) rfl
set_option maxRecDepth 100000 in
theorem pq419 : Cond.selects RX4 yX4_skipBlanks yX4_skipBlanks ∈ pw := pw_mem (i := 419) (by decide +kernel) rfl
set_option maxRecDepth 100000 in
theorem pq420 : Cond.code yX4_skipBlanks cX4_skipBlanks 1 none ∈ pw := pw_mem (i := 420) (by rfl) rfl
set_option maxRecDepth 100000 in
theorem pq585 : Cond.methodLink RX6 80 yX6_replaceBy ∈ pw := pw_mem (i := 585) (by decide +kernel) rfl
set_option maxRecDepth 100000 in
theorem pq587 : Cond.instanceMethod yX6_replaceBy ∈ pw := pw_mem (i := 587) (by decide +kernel) rfl
set_option maxRecDepth 100000 in
theorem pq588 : Cond.code yX6_replaceBy cX6_replaceBy 2 none ∈ pw := pw_mem (i := 588) (by rfl) rfl
set_option maxRecDepth 100000 in
theorem pq589 : Cond.methodLink RX6 238 yX1_become ∈ pw := pw_mem (i := 589) (by decide +kernel) rfl
set_option maxRecDepth 100000 in
theorem pq590 : Cond.instanceMethod yX1_become ∈ pw := pw_mem (i := 590) (by decide +kernel) rfl
set_option maxRecDepth 100000 in
theorem pq591 : Cond.selects RX1 yX1_become yX1_become ∈ pw := pw_mem (i := 591) (by decide +kernel) rfl
set_option maxRecDepth 100000 in
theorem pq592 : Cond.code yX1_become cX1_become 3 none ∈ pw := pw_mem (i := 592) (by rfl) rfl
set_option maxRecDepth 100000 in
theorem pq604 : Cond.methodLink RX6 115 yX5_redraw ∈ pw := pw_mem (i := 604) (by decide +kernel) rfl
set_option maxRecDepth 100000 in
theorem pq605 : Cond.instanceMethod yX5_redraw ∈ pw := pw_mem (i := 605) (by decide +kernel) rfl
set_option maxRecDepth 100000 in
theorem pq606 : Cond.selects RX5 yX5_redraw yX5_redraw ∈ pw := pw_mem (i := 606) (by decide +kernel) rfl
set_option maxRecDepth 100000 in
theorem pq607 : Cond.code yX5_redraw cX5_redraw 3 none ∈ pw := pw_mem (i := 607) (by rfl) rfl
set_option maxHeartbeats 4000000 in
set_option maxRecDepth 100000 in
theorem c_X1_clear (l : Launch) (dC : Nat → ClassId) (dI : Nat → Nat → Nat) (h0 am ab : Nat) (sz : Nat) : Met l yX1_clear (.code yX1_clear cX1_clear 1 none :: pw) ({ frames := 0, cells := 0, slots := 0, locals := 0 }) (pc (dC, dI) [.ref h0] sz [(h0, .inr (1, [.ref am, .ref ab, .int 0, .int 0, .int 0]))] []) (va_Qv (fun (_ : Unit) => True) (fun _ t => wB (dC, dI) [(h0, .inr (1, [.ref am, .ref ab, .int 0, .int 0, .int 0]))] [] (va_A [(h0, .inr (1, [.ref am, .ref ab, .int 0, .int 0, .int 0]))] sz) t) (va_A [(h0, .inr (1, [.ref am, .ref ab, .int 0, .int 0, .int 0]))] sz)) 0 0 (va_A [(h0, .inr (1, [.ref am, .ref ab, .int 0, .int 0, .int 0]))] sz) := by
  refine Met.ofW (cc := cX1_clear) (maxL := 1) (ret := none) (by decide +kernel) rfl ?_
  intro p e s m args below meth c s₁ B hml hv
  obtain ⟨rfl, hsz, hP, hK, hD0, hN⟩ := hv
  have hx := B.exec
  have hb := B.bytes
  have hr := B.returns
  have hts := fun w (h : w ∈ pw) => atoms_spec (ws := Cond.code yX1_clear cX1_clear 1 none :: pw) B.pre w (List.mem_cons_of_mem _ h)
  have hown : s.vm.findClass RX1 = some m.cls := findClass_of_methodNamed B.named
  have hlocks := B.notSynchronized
  subst hsz
  have hD := hD0.self (sz := s.heap.size)
  generalize hAe : va_A [(h0, .inr (1, [.ref am, .ref ab, .int 0, .int 0, .int 0]))] s.heap.size = A at hD ⊢
  have hA : ∀ q : Nat, s.heap.size ≤ q → A q := fun q h => by rw [← hAe]; exact Or.inr h
  obtain ⟨H, hHe⟩ : ∃ H : Heap, H = s.heap := ⟨_, rfl⟩
  have hS : va_S A s.heap H [] := by rw [hHe]; exact va_S.rf
  rw [← hHe] at hP
  have hl := lv_entry ([.ref h0]) (n := 1) (Nat.le_of_ble_eq_true rfl)
  rw [lg_entry_eq]
  generalize (lg_sl ([.ref h0]) ++ List.replicate (1 - (lg_sl ([.ref h0])).length) Slot.unset).toArray = ls at hl ⊢
  have hl : lv_has ls 1 [(0, .ref h0)] := hl
  rw [← hHe]
  refine lv_aload_n hx hb dX1_clear_0 rfl (lv_at hl 0 rfl) ?_
  refine lv_iconst (v := 0) hx hb dX1_clear_1 (by decide +kernel) ?_
  refine va_put (D := (dC, dI)) (ci := 1) (v := .int 0) (ty := tyX1 2) (C := RX1) (T := TX1) (N := 5) hx hb hts inX1 tyX1 tyX1_ok nmX1 hown hK hP hD hS 0 rfl rfl 2 (by decide) (hts _ pq221) (fun _ h9 => h9) rfl (by decide +kernel) rfl rfl (Nat.le_of_ble_eq_true rfl) dX1_clear_2 (fun H locs hP hD hS => ?_)
  have hP : va_P (dC, dI) vwCl [(h0, .inr (1, [.ref am, .ref ab, .int 0, .int 0, .int 0]))] H := hP
  have hD : va_D A [(h0, .inr (1, [.ref am, .ref ab, .int 0, .int 0, .int 0]))] := hD
  refine lv_aload_n hx hb dX1_clear_5 rfl (lv_at hl 0 rfl) ?_
  refine lv_iconst (v := 0) hx hb dX1_clear_6 (by decide +kernel) ?_
  refine va_put (D := (dC, dI)) (ci := 1) (v := .int 0) (ty := tyX1 3) (C := RX1) (T := TX1) (N := 5) hx hb hts inX1 tyX1 tyX1_ok nmX1 hown hK hP hD hS 0 rfl rfl 3 (by decide) (hts _ pq224) (fun _ h9 => h9) rfl (by decide +kernel) rfl rfl (Nat.le_of_ble_eq_true rfl) dX1_clear_7 (fun H locs hP hD hS => ?_)
  have hP : va_P (dC, dI) vwCl [(h0, .inr (1, [.ref am, .ref ab, .int 0, .int 0, .int 0]))] H := hP
  have hD : va_D A [(h0, .inr (1, [.ref am, .ref ab, .int 0, .int 0, .int 0]))] := hD
  refine lv_aload_n hx hb dX1_clear_10 rfl (lv_at hl 0 rfl) ?_
  refine lv_iconst (v := 0) hx hb dX1_clear_11 (by decide +kernel) ?_
  refine va_put (D := (dC, dI)) (ci := 1) (v := .int 0) (ty := tyX1 4) (C := RX1) (T := TX1) (N := 5) hx hb hts inX1 tyX1 tyX1_ok nmX1 hown hK hP hD hS 0 rfl rfl 4 (by decide) (hts _ pq228) (fun _ h9 => h9) rfl (by decide +kernel) rfl rfl (Nat.le_of_ble_eq_true rfl) dX1_clear_12 (fun H locs hP hD hS => ?_)
  have hP : va_P (dC, dI) vwCl [(h0, .inr (1, [.ref am, .ref ab, .int 0, .int 0, .int 0]))] H := hP
  have hD : va_D A [(h0, .inr (1, [.ref am, .ref ab, .int 0, .int 0, .int 0]))] := hD
  have hP9 := hP.sub (ws' := [(h0, .inr (1, [.ref am, .ref ab, .int 0, .int 0, .int 0]))]) [0] rfl
  have hD9 := hD.sub (ws' := [(h0, .inr (1, [.ref am, .ref ab, .int 0, .int 0, .int 0]))]) [0] (by decide) rfl
  have hK9 := hK.sub (tys' := []) [] rfl
  exact W.vret hx hb hr (fun t ht hW => ⟨⟨(), rfl, trivial, ⟨by rw [ht]; exact hP9, va_K.moved hW.alike hK9, hD9⟩⟩, hS.F ht⟩) hS.2.2 dX1_clear_15

set_option maxHeartbeats 4000000 in
set_option maxRecDepth 100000 in
theorem c_X1_become (l : Launch) (dC : Nat → ClassId) (dI : Nat → Nat → Nat) (h0 am ab p0 am2 ab2 : Nat) (sz : Nat) : Met l yX1_become (.code yX1_become cX1_become 3 none :: pw) ({ frames := 0, cells := 0, slots := 0, locals := 0 }) (pc (dC, dI) [.ref h0, .ref p0] sz [(h0, .inr (1, [.ref am, .ref ab, .int 0, .int 0, .int 0])), (p0, .inr (1, [.ref am2, .ref ab2, .int 0, .int 0, .int 0]))] []) (va_Qv (fun (_ : Unit) => True) (fun _ t => wB (dC, dI) [(h0, .inr (1, [.ref am, .ref ab, .int 0, .int 0, .int 0])), (p0, .inr (1, [.ref am2, .ref ab2, .int 0, .int 0, .int 0]))] [] (va_A [(h0, .inr (1, [.ref am, .ref ab, .int 0, .int 0, .int 0])), (p0, .inr (1, [.ref am2, .ref ab2, .int 0, .int 0, .int 0]))] sz) t) (va_A [(h0, .inr (1, [.ref am, .ref ab, .int 0, .int 0, .int 0])), (p0, .inr (1, [.ref am2, .ref ab2, .int 0, .int 0, .int 0]))] sz)) 0 0 (va_A [(h0, .inr (1, [.ref am, .ref ab, .int 0, .int 0, .int 0])), (p0, .inr (1, [.ref am2, .ref ab2, .int 0, .int 0, .int 0]))] sz) := by
  refine Met.ofW (cc := cX1_become) (maxL := 3) (ret := none) (by decide +kernel) rfl ?_
  intro p e s m args below meth c s₁ B hml hv
  obtain ⟨rfl, hsz, hP, hK, hD0, hN⟩ := hv
  have hx := B.exec
  have hb := B.bytes
  have hr := B.returns
  have hts := fun w (h : w ∈ pw) => atoms_spec (ws := Cond.code yX1_become cX1_become 3 none :: pw) B.pre w (List.mem_cons_of_mem _ h)
  have hown : s.vm.findClass RX1 = some m.cls := findClass_of_methodNamed B.named
  have hlocks := B.notSynchronized
  subst hsz
  have hD := hD0.self (sz := s.heap.size)
  generalize hAe : va_A [(h0, .inr (1, [.ref am, .ref ab, .int 0, .int 0, .int 0])), (p0, .inr (1, [.ref am2, .ref ab2, .int 0, .int 0, .int 0]))] s.heap.size = A at hD ⊢
  have hA : ∀ q : Nat, s.heap.size ≤ q → A q := fun q h => by rw [← hAe]; exact Or.inr h
  obtain ⟨H, hHe⟩ : ∃ H : Heap, H = s.heap := ⟨_, rfl⟩
  have hS : va_S A s.heap H [] := by rw [hHe]; exact va_S.rf
  rw [← hHe] at hP
  have hl := lv_entry ([.ref h0, .ref p0]) (n := 3) (Nat.le_of_ble_eq_true rfl)
  rw [lg_entry_eq]
  generalize (lg_sl ([.ref h0, .ref p0]) ++ List.replicate (3 - (lg_sl ([.ref h0, .ref p0])).length) Slot.unset).toArray = ls at hl ⊢
  have hl : lv_has ls 3 [(0, .ref h0), (1, .ref p0)] := hl
  rw [← hHe]
  refine lv_aload_n hx hb dX1_become_0 rfl (lv_at hl 0 rfl) ?_
  refine lv_aload_n hx hb dX1_become_1 rfl (lv_at hl 1 rfl) ?_
  refine va_get (D := (dC, dI)) (ci := 1) (v := .int 0) (C := RX1) (T := TX1) (N := 5) hx hb hts inX1 hown hK hP 1 rfl rfl 2 (by decide) (hts _ pq221) (fun _ h9 => h9) rfl dX1_become_2 ?_
  refine va_put (D := (dC, dI)) (ci := 1) (v := .int 0) (ty := tyX1 2) (C := RX1) (T := TX1) (N := 5) hx hb hts inX1 tyX1 tyX1_ok nmX1 hown hK hP hD hS 0 rfl rfl 2 (by decide) (hts _ pq221) (fun _ h9 => h9) rfl (by decide +kernel) rfl rfl (Nat.le_of_ble_eq_true rfl) dX1_become_5 (fun H locs hP hD hS => ?_)
  have hP : va_P (dC, dI) vwCl [(h0, .inr (1, [.ref am, .ref ab, .int 0, .int 0, .int 0])), (p0, .inr (1, [.ref am2, .ref ab2, .int 0, .int 0, .int 0]))] H := hP
  have hD : va_D A [(h0, .inr (1, [.ref am, .ref ab, .int 0, .int 0, .int 0])), (p0, .inr (1, [.ref am2, .ref ab2, .int 0, .int 0, .int 0]))] := hD
  refine lv_aload_n hx hb dX1_become_8 rfl (lv_at hl 0 rfl) ?_
  refine lv_aload_n hx hb dX1_become_9 rfl (lv_at hl 1 rfl) ?_
  refine va_get (D := (dC, dI)) (ci := 1) (v := .int 0) (C := RX1) (T := TX1) (N := 5) hx hb hts inX1 hown hK hP 1 rfl rfl 3 (by decide) (hts _ pq224) (fun _ h9 => h9) rfl dX1_become_10 ?_
  refine va_put (D := (dC, dI)) (ci := 1) (v := .int 0) (ty := tyX1 3) (C := RX1) (T := TX1) (N := 5) hx hb hts inX1 tyX1 tyX1_ok nmX1 hown hK hP hD hS 0 rfl rfl 3 (by decide) (hts _ pq224) (fun _ h9 => h9) rfl (by decide +kernel) rfl rfl (Nat.le_of_ble_eq_true rfl) dX1_become_13 (fun H locs hP hD hS => ?_)
  have hP : va_P (dC, dI) vwCl [(h0, .inr (1, [.ref am, .ref ab, .int 0, .int 0, .int 0])), (p0, .inr (1, [.ref am2, .ref ab2, .int 0, .int 0, .int 0]))] H := hP
  have hD : va_D A [(h0, .inr (1, [.ref am, .ref ab, .int 0, .int 0, .int 0])), (p0, .inr (1, [.ref am2, .ref ab2, .int 0, .int 0, .int 0]))] := hD
  refine lv_aload_n hx hb dX1_become_16 rfl (lv_at hl 0 rfl) ?_
  refine lv_aload_n hx hb dX1_become_17 rfl (lv_at hl 1 rfl) ?_
  refine va_get (D := (dC, dI)) (ci := 1) (v := .int 0) (C := RX1) (T := TX1) (N := 5) hx hb hts inX1 hown hK hP 1 rfl rfl 4 (by decide) (hts _ pq228) (fun _ h9 => h9) rfl dX1_become_18 ?_
  refine va_put (D := (dC, dI)) (ci := 1) (v := .int 0) (ty := tyX1 4) (C := RX1) (T := TX1) (N := 5) hx hb hts inX1 tyX1 tyX1_ok nmX1 hown hK hP hD hS 0 rfl rfl 4 (by decide) (hts _ pq228) (fun _ h9 => h9) rfl (by decide +kernel) rfl rfl (Nat.le_of_ble_eq_true rfl) dX1_become_21 (fun H locs hP hD hS => ?_)
  have hP : va_P (dC, dI) vwCl [(h0, .inr (1, [.ref am, .ref ab, .int 0, .int 0, .int 0])), (p0, .inr (1, [.ref am2, .ref ab2, .int 0, .int 0, .int 0]))] H := hP
  have hD : va_D A [(h0, .inr (1, [.ref am, .ref ab, .int 0, .int 0, .int 0])), (p0, .inr (1, [.ref am2, .ref ab2, .int 0, .int 0, .int 0]))] := hD
  refine lv_iconst (v := 0) hx hb dX1_become_24 (by decide +kernel) ?_
  refine lv_istore_n (lv' := [(2, .int 0), (0, .ref h0), (1, .ref p0)]) hx hb dX1_become_25 rfl hl (by decide) rfl (fun ls hl => ?_)
  refine lv_iload_n hx hb dX1_become_26 rfl (lv_at hl 0 rfl) ?_
  refine lv_aload_n hx hb dX1_become_27 rfl (lv_at hl 1 rfl) ?_
  refine va_get (D := (dC, dI)) (ci := 1) (v := .int 0) (C := RX1) (T := TX1) (N := 5) hx hb hts inX1 hown hK hP 0 rfl rfl 2 (by decide) (hts _ pq221) (fun _ h9 => h9) rfl dX1_become_28 ?_
  refine lv_icmp_ge (tgt := 55) hx hb dX1_become_31 (by decide) (fun c1 => ?_) (fun c1 => absurd (by decide +kernel) c1)
  refine lv_iconst (v := 0) hx hb dX1_become_55 (by decide +kernel) ?_
  refine lv_istore_n (lv' := [(2, .int 0), (0, .ref h0), (1, .ref p0)]) hx hb dX1_become_56 rfl hl (by decide) rfl (fun ls hl => ?_)
  refine lv_iload_n hx hb dX1_become_57 rfl (lv_at hl 0 rfl) ?_
  refine lv_aload_n hx hb dX1_become_58 rfl (lv_at hl 1 rfl) ?_
  refine va_get (D := (dC, dI)) (ci := 1) (v := .int 0) (C := RX1) (T := TX1) (N := 5) hx hb hts inX1 hown hK hP 0 rfl rfl 3 (by decide) (hts _ pq224) (fun _ h9 => h9) rfl dX1_become_59 ?_
  refine lv_icmp_ge (tgt := 86) hx hb dX1_become_62 (by decide) (fun c2 => ?_) (fun c2 => absurd (by decide +kernel) c2)
  have hP9 := hP.sub (ws' := [(h0, .inr (1, [.ref am, .ref ab, .int 0, .int 0, .int 0])), (p0, .inr (1, [.ref am2, .ref ab2, .int 0, .int 0, .int 0]))]) [0, 1] rfl
  have hD9 := hD.sub (ws' := [(h0, .inr (1, [.ref am, .ref ab, .int 0, .int 0, .int 0])), (p0, .inr (1, [.ref am2, .ref ab2, .int 0, .int 0, .int 0]))]) [0, 1] (by decide) rfl
  have hK9 := hK.sub (tys' := []) [] rfl
  exact W.vret hx hb hr (fun t ht hW => ⟨⟨(), rfl, trivial, ⟨by rw [ht]; exact hP9, va_K.moved hW.alike hK9, hD9⟩⟩, hS.F ht⟩) hS.2.2 dX1_become_86

set_option maxHeartbeats 4000000 in
set_option maxRecDepth 100000 in
theorem c_X5_redraw (l : Launch) (dC : Nat → ClassId) (dI : Nat → Nat → Nat) (h0 nw ss nm nb : Nat) (sz : Nat) : Met l yX5_redraw (.code yX5_redraw cX5_redraw 3 none :: pw) ({ frames := 0, cells := 0, slots := 0, locals := 0 }) (pc (dC, dI) [.ref h0] sz [(h0, .inr (5, [.ref nw, .ref ss, .int 0, .int (-1), .int 0, .int 0, .int 0, .int 0, .int 0])), (nw, .inr (1, [.ref nm, .ref nb, .int 0, .int 0, .int 0]))] []) (va_Qv (fun (_ : Unit) => True) (fun _ _ => True) (fun _ => False)) 0 0 (fun _ => False) := by
  refine Met.ofW (cc := cX5_redraw) (maxL := 3) (ret := none) (by decide +kernel) rfl ?_
  intro p e s m args below meth c s₁ B hml hv
  obtain ⟨rfl, hsz, hP, hK, hD0, hN⟩ := hv
  have hx := B.exec
  have hb := B.bytes
  have hr := B.returns
  have hts := fun w (h : w ∈ pw) => atoms_spec (ws := Cond.code yX5_redraw cX5_redraw 3 none :: pw) B.pre w (List.mem_cons_of_mem _ h)
  have hown : s.vm.findClass RX5 = some m.cls := findClass_of_methodNamed B.named
  have hlocks := B.notSynchronized
  subst hsz
  have hD := hD0
  obtain ⟨H, hHe⟩ : ∃ H : Heap, H = s.heap := ⟨_, rfl⟩
  have hS : va_S (fun _ => False) s.heap H [] := by rw [hHe]; exact va_S.rf
  rw [← hHe] at hP
  have hl := lv_entry ([.ref h0]) (n := 3) (Nat.le_of_ble_eq_true rfl)
  rw [lg_entry_eq]
  generalize (lg_sl ([.ref h0]) ++ List.replicate (3 - (lg_sl ([.ref h0])).length) Slot.unset).toArray = ls at hl ⊢
  have hl : lv_has ls 3 [(0, .ref h0)] := hl
  rw [← hHe]
  refine lv_iconst (v := 0) hx hb dX5_redraw_0 (by decide +kernel) ?_
  refine lv_istore_n (lv' := [(1, .int 0), (0, .ref h0)]) hx hb dX5_redraw_1 rfl hl (by decide) rfl (fun ls hl => ?_)
  refine lv_iload_n hx hb dX5_redraw_2 rfl (lv_at hl 0 rfl) ?_
  refine lv_aload_n hx hb dX5_redraw_3 rfl (lv_at hl 1 rfl) ?_
  refine va_get (D := (dC, dI)) (ci := 5) (v := .ref nw) (C := RX5) (T := TX5) (N := 9) hx hb hts inX5 hown hK hP 0 rfl rfl 0 (by decide) (hts _ pq274) (fun _ h9 => h9) rfl dX5_redraw_4 ?_
  refine va_get (D := (dC, dI)) (ci := 1) (v := .int 0) (C := RX1) (T := TX1) (N := 5) hx hb hts inX1 hown hK hP 1 rfl rfl 3 (by decide) (hts _ pq225) (fun _ h9 => h9) rfl dX5_redraw_7 ?_
  refine lv_icmp_ge (tgt := 54) hx hb dX5_redraw_10 (by decide) (fun c1 => ?_) (fun c1 => absurd (by decide +kernel) c1)
  exact W.vret hx hb hr (fun t ht hW => ⟨⟨(), rfl, trivial, trivial⟩, hS.F ht⟩) hS.2.2 dX5_redraw_54

set_option maxHeartbeats 4000000 in
set_option maxRecDepth 100000 in
theorem c_X4_skipBlanks (l : Launch) (dC : Nat → ClassId) (dI : Nat → Nat → Nat) (h0 tp : Nat) (sz : Nat) : Met l yX4_skipBlanks (.code yX4_skipBlanks cX4_skipBlanks 1 none :: pw) ({ frames := 0, cells := 0, slots := 0, locals := 0 }) (pc (dC, dI) [.ref h0] sz [(h0, .inr (4, [.ref tp, .int 0, .int 0, .int 0, .int 0, .int 0]))] []) (va_Qv (fun (_ : Unit) => True) (fun _ _ => True) (fun _ => False)) 0 0 (fun _ => False) := by
  refine Met.ofW (cc := cX4_skipBlanks) (maxL := 1) (ret := none) (by decide +kernel) rfl ?_
  intro p e s m args below meth c s₁ B hml hv
  obtain ⟨rfl, hsz, hP, hK, hD0, hN⟩ := hv
  have hx := B.exec
  have hb := B.bytes
  have hr := B.returns
  have hts := fun w (h : w ∈ pw) => atoms_spec (ws := Cond.code yX4_skipBlanks cX4_skipBlanks 1 none :: pw) B.pre w (List.mem_cons_of_mem _ h)
  have hown : s.vm.findClass RX4 = some m.cls := findClass_of_methodNamed B.named
  have hlocks := B.notSynchronized
  subst hsz
  have hD := hD0
  obtain ⟨H, hHe⟩ : ∃ H : Heap, H = s.heap := ⟨_, rfl⟩
  have hS : va_S (fun _ => False) s.heap H [] := by rw [hHe]; exact va_S.rf
  rw [← hHe] at hP
  have hl := lv_entry ([.ref h0]) (n := 1) (Nat.le_of_ble_eq_true rfl)
  rw [lg_entry_eq]
  generalize (lg_sl ([.ref h0]) ++ List.replicate (1 - (lg_sl ([.ref h0])).length) Slot.unset).toArray = ls at hl ⊢
  have hl : lv_has ls 1 [(0, .ref h0)] := hl
  rw [← hHe]
  refine lv_aload_n hx hb dX4_skipBlanks_0 rfl (lv_at hl 0 rfl) ?_
  refine va_get (D := (dC, dI)) (ci := 4) (v := .int 0) (C := RX4) (T := TX4) (N := 6) hx hb hts inX4 hown hK hP 0 rfl rfl 2 (by decide) (hts _ pq249) (fun _ h9 => h9) rfl dX4_skipBlanks_1 ?_
  refine lv_aload_n hx hb dX4_skipBlanks_4 rfl (lv_at hl 0 rfl) ?_
  refine va_get (D := (dC, dI)) (ci := 4) (v := .int 0) (C := RX4) (T := TX4) (N := 6) hx hb hts inX4 hown hK hP 0 rfl rfl 1 (by decide) (hts _ pq248) (fun _ h9 => h9) rfl dX4_skipBlanks_5 ?_
  refine lv_icmp_ge (tgt := 38) hx hb dX4_skipBlanks_8 (by decide) (fun c1 => ?_) (fun c1 => absurd (by decide +kernel) c1)
  exact W.vret hx hb hr (fun t ht hW => ⟨⟨(), rfl, trivial, trivial⟩, hS.F ht⟩) hS.2.2 dX4_skipBlanks_38

set_option maxHeartbeats 4000000 in
set_option maxRecDepth 100000 in
theorem c_X4_isAtEnd (l : Launch) (dC : Nat → ClassId) (dI : Nat → Nat → Nat) (h0 tp : Nat) (sz : Nat) : Met l yX4_isAtEnd (.code yX4_isAtEnd cX4_isAtEnd 1 (some .boolean) :: pw) ({ frames := 1, cells := 0, slots := 0, locals := 20 }) (pc (dC, dI) [.ref h0] sz [(h0, .inr (4, [.ref tp, .int 0, .int 0, .int 0, .int 0, .int 0]))] []) (va_Qi (fun (r : Int32) (_ : Unit) => r = 1) (fun _ _ => True) (fun _ => False)) 0 0 (fun _ => False) := by
  refine Met.ofW (cc := cX4_isAtEnd) (maxL := 1) (ret := (some .boolean)) (by decide +kernel) rfl ?_
  intro p e s m args below meth c s₁ B hml hv
  obtain ⟨rfl, hsz, hP, hK, hD0, hN⟩ := hv
  have hx := B.exec
  have hb := B.bytes
  have hr := B.returns
  have hts := fun w (h : w ∈ pw) => atoms_spec (ws := Cond.code yX4_isAtEnd cX4_isAtEnd 1 (some .boolean) :: pw) B.pre w (List.mem_cons_of_mem _ h)
  have hown : s.vm.findClass RX4 = some m.cls := findClass_of_methodNamed B.named
  have hlocks := B.notSynchronized
  subst hsz
  have hD := hD0
  obtain ⟨H, hHe⟩ : ∃ H : Heap, H = s.heap := ⟨_, rfl⟩
  have hS : va_S (fun _ => False) s.heap H [] := by rw [hHe]; exact va_S.rf
  rw [← hHe] at hP
  have hl := lv_entry ([.ref h0]) (n := 1) (Nat.le_of_ble_eq_true rfl)
  rw [lg_entry_eq]
  generalize (lg_sl ([.ref h0]) ++ List.replicate (1 - (lg_sl ([.ref h0])).length) Slot.unset).toArray = ls at hl ⊢
  have hl : lv_has ls 1 [(0, .ref h0)] := hl
  rw [← hHe]
  refine lv_aload_n hx hb dX4_isAtEnd_0 rfl (lv_at hl 0 rfl) ?_
  have hPc := hP.sub (ws' := [(h0, .inr (4, [.ref tp, .int 0, .int 0, .int 0, .int 0, .int 0]))]) [0] rfl
  have hDc := hD.sub (ws' := [(h0, .inr (4, [.ref tp, .int 0, .int 0, .int 0, .int 0, .int 0]))]) [0] (by decide) rfl
  have hKc := hK.sub (tys' := []) [] rfl
  refine ro_v (va_runV (As := []) (rest := []) ⟨hx, hb, hml, hown, hts⟩ (c_X4_skipBlanks l dC dI h0 tp H.size  ) (cwV 0 hts (gV pq417 pq418 pq419 pq78 pq420) rfl rfl rfl (by decide +kernel) ⟨(Nat.le_of_ble_eq_true rfl), (Nat.le_of_ble_eq_true rfl)⟩) (pc_V hPc hDc hKc hN (va_recv hK hP (ci := 4) (q0 := 0) rfl rfl)) rfl rfl hl.1 rfl (lv_room (Nat.le_of_ble_eq_true rfl)) dX4_isAtEnd_1 ⟨(Nat.le_of_ble_eq_true rfl), (Nat.le_of_ble_eq_true rfl)⟩) hS hP (fun H locs hP hS => ?_)
  refine lv_aload_n hx hb dX4_isAtEnd_4 rfl (lv_at hl 0 rfl) ?_
  refine va_get (D := (dC, dI)) (ci := 4) (v := .int 0) (C := RX4) (T := TX4) (N := 6) hx hb hts inX4 hown hK hP 0 rfl rfl 2 (by decide) (hts _ pq249) (fun _ h9 => h9) rfl dX4_isAtEnd_5 ?_
  refine lv_aload_n hx hb dX4_isAtEnd_8 rfl (lv_at hl 0 rfl) ?_
  refine va_get (D := (dC, dI)) (ci := 4) (v := .int 0) (C := RX4) (T := TX4) (N := 6) hx hb hts inX4 hown hK hP 0 rfl rfl 1 (by decide) (hts _ pq248) (fun _ h9 => h9) rfl dX4_isAtEnd_9 ?_
  refine lv_icmp_lt (tgt := 19) hx hb dX4_isAtEnd_12 (by decide) (fun c1 => absurd c1 (by decide +kernel)) (fun c1 => ?_)
  refine lv_iconst (v := 1) hx hb dX4_isAtEnd_15 (by decide +kernel) ?_
  refine lv_goto (tgt := 20) hx hb dX4_isAtEnd_16 (by decide) ?_
  exact W.zret (v := 1) hx hb hr (by decide +kernel) (fun t ht hW => ⟨⟨1, (), rfl, rfl, trivial⟩, hS.F ht⟩) hS.2.2 dX4_isAtEnd_20

set_option maxHeartbeats 4000000 in
set_option maxRecDepth 100000 in
theorem c_X4_readField (l : Launch) (dC : Nat → ClassId) (dI : Nat → Nat → Nat) (h0 tp p1 am ab : Nat) (kB : ClassId) (sz : Nat) : Met l yX4_readField (.code yX4_readField cX4_readField 5 (some .int) :: pw) ({ frames := 2, cells := 0, slots := 0, locals := 40 }) (pc (dC, dI) [.ref h0, .int 0, .ref p1] sz [(h0, .inr (4, [.ref tp, .int 0, .int 0, .int 0, .int 0, .int 0])), (tp, .inl (kB, 400, .inl (fun _ => 0))), (p1, .inr (1, [.ref am, .ref ab, .int 0, .int 0, .int 0]))] [(kB, .byte)]) (va_Qi (fun (r : Int32) (_ : Unit) => r = 0) (fun _ t => wB (dC, dI) [(h0, .inr (4, [.ref tp, .int 0, .int 0, .int 0, .int 0, .int 0])), (p1, .inr (1, [.ref am, .ref ab, .int 0, .int 0, .int 0]))] [] (va_A [(h0, .inr (4, [.ref tp, .int 0, .int 0, .int 0, .int 0, .int 0])), (tp, .inl (kB, 400, .inl (fun _ => 0))), (p1, .inr (1, [.ref am, .ref ab, .int 0, .int 0, .int 0]))] sz) t) (va_A [(h0, .inr (4, [.ref tp, .int 0, .int 0, .int 0, .int 0, .int 0])), (tp, .inl (kB, 400, .inl (fun _ => 0))), (p1, .inr (1, [.ref am, .ref ab, .int 0, .int 0, .int 0]))] sz)) 0 0 (va_A [(h0, .inr (4, [.ref tp, .int 0, .int 0, .int 0, .int 0, .int 0])), (tp, .inl (kB, 400, .inl (fun _ => 0))), (p1, .inr (1, [.ref am, .ref ab, .int 0, .int 0, .int 0]))] sz) := by
  refine Met.ofW (cc := cX4_readField) (maxL := 5) (ret := (some .int)) (by decide +kernel) rfl ?_
  intro p e s m args below meth c s₁ B hml hv
  obtain ⟨rfl, hsz, hP, hK, hD0, hN⟩ := hv
  have hx := B.exec
  have hb := B.bytes
  have hr := B.returns
  have hts := fun w (h : w ∈ pw) => atoms_spec (ws := Cond.code yX4_readField cX4_readField 5 (some .int) :: pw) B.pre w (List.mem_cons_of_mem _ h)
  have hown : s.vm.findClass RX4 = some m.cls := findClass_of_methodNamed B.named
  have hlocks := B.notSynchronized
  subst hsz
  have hD := hD0.self (sz := s.heap.size)
  generalize hAe : va_A [(h0, .inr (4, [.ref tp, .int 0, .int 0, .int 0, .int 0, .int 0])), (tp, .inl (kB, 400, .inl (fun _ => 0))), (p1, .inr (1, [.ref am, .ref ab, .int 0, .int 0, .int 0]))] s.heap.size = A at hD ⊢
  have hA : ∀ q : Nat, s.heap.size ≤ q → A q := fun q h => by rw [← hAe]; exact Or.inr h
  obtain ⟨H, hHe⟩ : ∃ H : Heap, H = s.heap := ⟨_, rfl⟩
  have hS : va_S A s.heap H [] := by rw [hHe]; exact va_S.rf
  rw [← hHe] at hP
  have hl := lv_entry ([.ref h0, .int 0, .ref p1]) (n := 5) (Nat.le_of_ble_eq_true rfl)
  rw [lg_entry_eq]
  generalize (lg_sl ([.ref h0, .int 0, .ref p1]) ++ List.replicate (5 - (lg_sl ([.ref h0, .int 0, .ref p1])).length) Slot.unset).toArray = ls at hl ⊢
  have hl : lv_has ls 5 [(0, .ref h0), (1, .int 0), (2, .ref p1)] := hl
  rw [← hHe]
  refine lv_aload_n hx hb dX4_readField_0 rfl (lv_at hl 0 rfl) ?_
  refine lv_iload_n hx hb dX4_readField_1 rfl (lv_at hl 1 rfl) ?_
  refine lv_aload_n hx hb dX4_readField_2 rfl (lv_at hl 0 rfl) ?_
  refine va_get (D := (dC, dI)) (ci := 4) (v := .ref tp) (C := RX4) (T := TX4) (N := 6) hx hb hts inX4 hown hK hP 0 rfl rfl 0 (by decide) (hts _ pq247) (fun _ h9 => h9) rfl dX4_readField_3 ?_
  refine va_alen (v := 400) hx hb hK hP 1 0 rfl rfl (by decide +kernel) dX4_readField_6 ?_
  refine va_mmin hx hb (hml.trans hl.1.symm) hown (hts _ pq406) (hts _ pq407) (hts _ pq82) (hts _ pq408) (Nat.le_of_ble_eq_true rfl) (Nat.le_of_ble_eq_true rfl) (Nat.le_of_ble_eq_true rfl) (Nat.le_of_ble_eq_true rfl) dX4_readField_7 ?_
  refine lv_topi (fun z1 ez1 => ?_)
  obtain rfl : z1 = 0 := ez1.trans (by decide +kernel)
  refine va_put (D := (dC, dI)) (ci := 4) (v := .int 0) (ty := tyX4 1) (C := RX4) (T := TX4) (N := 6) hx hb hts inX4 tyX4 tyX4_ok nmX4 hown hK hP hD hS 0 rfl rfl 1 (by decide) (hts _ pq248) (fun _ h9 => h9) rfl (by decide +kernel) rfl rfl (Nat.le_of_ble_eq_true rfl) dX4_readField_10 (fun H locs hP hD hS => ?_)
  have hP : va_P (dC, dI) vwCl [(h0, .inr (4, [.ref tp, .int 0, .int 0, .int 0, .int 0, .int 0])), (tp, .inl (kB, 400, .inl (fun _ => 0))), (p1, .inr (1, [.ref am, .ref ab, .int 0, .int 0, .int 0]))] H := hP
  have hD : va_D A [(h0, .inr (4, [.ref tp, .int 0, .int 0, .int 0, .int 0, .int 0])), (tp, .inl (kB, 400, .inl (fun _ => 0))), (p1, .inr (1, [.ref am, .ref ab, .int 0, .int 0, .int 0]))] := hD
  refine lv_aload_n hx hb dX4_readField_13 rfl (lv_at hl 0 rfl) ?_
  refine lv_iconst (v := 0) hx hb dX4_readField_14 (by decide +kernel) ?_
  refine va_put (D := (dC, dI)) (ci := 4) (v := .int 0) (ty := tyX4 2) (C := RX4) (T := TX4) (N := 6) hx hb hts inX4 tyX4 tyX4_ok nmX4 hown hK hP hD hS 0 rfl rfl 2 (by decide) (hts _ pq249) (fun _ h9 => h9) rfl (by decide +kernel) rfl rfl (Nat.le_of_ble_eq_true rfl) dX4_readField_15 (fun H locs hP hD hS => ?_)
  have hP : va_P (dC, dI) vwCl [(h0, .inr (4, [.ref tp, .int 0, .int 0, .int 0, .int 0, .int 0])), (tp, .inl (kB, 400, .inl (fun _ => 0))), (p1, .inr (1, [.ref am, .ref ab, .int 0, .int 0, .int 0]))] H := hP
  have hD : va_D A [(h0, .inr (4, [.ref tp, .int 0, .int 0, .int 0, .int 0, .int 0])), (tp, .inl (kB, 400, .inl (fun _ => 0))), (p1, .inr (1, [.ref am, .ref ab, .int 0, .int 0, .int 0]))] := hD
  refine lv_aload_n hx hb dX4_readField_18 rfl (lv_at hl 0 rfl) ?_
  refine lv_iconst (v := 0) hx hb dX4_readField_19 (by decide +kernel) ?_
  refine va_put (D := (dC, dI)) (ci := 4) (v := .int 0) (ty := tyX4 5) (C := RX4) (T := TX4) (N := 6) hx hb hts inX4 tyX4 tyX4_ok nmX4 hown hK hP hD hS 0 rfl rfl 5 (by decide) (hts _ pq252) (fun _ h9 => h9) rfl (by decide +kernel) rfl rfl (Nat.le_of_ble_eq_true rfl) dX4_readField_20 (fun H locs hP hD hS => ?_)
  have hP : va_P (dC, dI) vwCl [(h0, .inr (4, [.ref tp, .int 0, .int 0, .int 0, .int 0, .int 0])), (tp, .inl (kB, 400, .inl (fun _ => 0))), (p1, .inr (1, [.ref am, .ref ab, .int 0, .int 0, .int 0]))] H := hP
  have hD : va_D A [(h0, .inr (4, [.ref tp, .int 0, .int 0, .int 0, .int 0, .int 0])), (tp, .inl (kB, 400, .inl (fun _ => 0))), (p1, .inr (1, [.ref am, .ref ab, .int 0, .int 0, .int 0]))] := hD
  refine lv_aload_n hx hb dX4_readField_23 rfl (lv_at hl 2 rfl) ?_
  have hPc := hP.sub (ws' := [(p1, .inr (1, [.ref am, .ref ab, .int 0, .int 0, .int 0]))]) [2] rfl
  have hDc := hD.sub (ws' := [(p1, .inr (1, [.ref am, .ref ab, .int 0, .int 0, .int 0]))]) [2] (by decide) rfl
  have hKc := hK.sub (tys' := []) [] rfl
  have hFc := va_free (wc := [(p1, .inr (1, [.ref am, .ref ab, .int 0, .int 0, .int 0]))]) hD hS hA [2] rfl
  refine va_callv (va_runV (As := []) (rest := []) ⟨hx, hb, hml, hown, hts⟩ (c_X1_clear l dC dI p1 am ab H.size  ) (cwV 0 hts (gV pq409 pq410 pq411 pq75 pq412) rfl rfl rfl (by decide +kernel) ⟨(Nat.le_of_ble_eq_true rfl), (Nat.le_of_ble_eq_true rfl)⟩) (pc_V hPc hDc hKc hN (va_recv hK hP (ci := 1) (q0 := 2) rfl rfl)) rfl rfl hl.1 rfl (lv_room (Nat.le_of_ble_eq_true rfl)) dX4_readField_24 ⟨(Nat.le_of_ble_eq_true rfl), (Nat.le_of_ble_eq_true rfl)⟩) hS (fun q _ h => hFc q h) hFc (fun u t H1 locs ht hvm hw hB hz1 hk1 hS => ?_)
  obtain ⟨hP1, hK1, hD1⟩ := hB
  rw [ht] at hP1
  have hK1 := va_K.moved hvm.symm hK1
  obtain ⟨hP, hD⟩ := va_join (wr := [(h0, .inr (4, [.ref tp, .int 0, .int 0, .int 0, .int 0, .int 0])), (tp, .inl (kB, 400, .inl (fun _ => 0)))]) (w1 := [(p1, .inr (1, [.ref am, .ref ab, .int 0, .int 0, .int 0]))]) hP hD [2] [0, 1] rfl rfl (by decide) (by decide) hk1 hFc hP1 hD1
  generalize H1 = H at hP hS ⊢
  have hP : va_P (dC, dI) vwCl [(h0, .inr (4, [.ref tp, .int 0, .int 0, .int 0, .int 0, .int 0])), (tp, .inl (kB, 400, .inl (fun _ => 0))), (p1, .inr (1, [.ref am, .ref ab, .int 0, .int 0, .int 0]))] H := hP
  have hD : va_D A [(h0, .inr (4, [.ref tp, .int 0, .int 0, .int 0, .int 0, .int 0])), (tp, .inl (kB, 400, .inl (fun _ => 0))), (p1, .inr (1, [.ref am, .ref ab, .int 0, .int 0, .int 0]))] := hD
  refine lv_aload_n hx hb dX4_readField_27 rfl (lv_at hl 0 rfl) ?_
  have hPc := hP.sub (ws' := [(h0, .inr (4, [.ref tp, .int 0, .int 0, .int 0, .int 0, .int 0]))]) [0] rfl
  have hDc := hD.sub (ws' := [(h0, .inr (4, [.ref tp, .int 0, .int 0, .int 0, .int 0, .int 0]))]) [0] (by decide) rfl
  have hKc := hK.sub (tys' := []) [] rfl
  refine ro_i (va_runV (As := []) (rest := []) ⟨hx, hb, hml, hown, hts⟩ (c_X4_isAtEnd l dC dI h0 tp H.size  ) (cwV 0 hts (gV pq413 pq414 pq415 pq78 pq416) rfl rfl rfl (by decide +kernel) ⟨(Nat.le_of_ble_eq_true rfl), (Nat.le_of_ble_eq_true rfl)⟩) (pc_V hPc hDc hKc hN (va_recv hK hP (ci := 4) (q0 := 0) rfl rfl)) rfl rfl hl.1 rfl (lv_room (Nat.le_of_ble_eq_true rfl)) dX4_readField_28 ⟨(Nat.le_of_ble_eq_true rfl), (Nat.le_of_ble_eq_true rfl)⟩) hS hP (fun r2 H locs hr2 hP hS => ?_)
  subst hr2
  refine lv_if_eq (tgt := 39) hx hb dX4_readField_31 (by decide) (fun c3 => absurd c3 (by decide +kernel)) (fun c3 => ?_)
  refine lv_aload_n hx hb dX4_readField_34 rfl (lv_at hl 0 rfl) ?_
  refine va_get (D := (dC, dI)) (ci := 4) (v := .int 0) (C := RX4) (T := TX4) (N := 6) hx hb hts inX4 hown hK hP 0 rfl rfl 5 (by decide) (hts _ pq252) (fun _ h9 => h9) rfl dX4_readField_35 ?_
  have hP9 := hP.sub (ws' := [(h0, .inr (4, [.ref tp, .int 0, .int 0, .int 0, .int 0, .int 0])), (p1, .inr (1, [.ref am, .ref ab, .int 0, .int 0, .int 0]))]) [0, 2] rfl
  have hD9 := hD.sub (ws' := [(h0, .inr (4, [.ref tp, .int 0, .int 0, .int 0, .int 0, .int 0])), (p1, .inr (1, [.ref am, .ref ab, .int 0, .int 0, .int 0]))]) [0, 2] (by decide) rfl
  have hK9 := hK.sub (tys' := []) [] rfl
  exact W.iret (v := 0) hx hb hr (fun t ht hW => ⟨⟨0, (), rfl, rfl, ⟨by rw [ht]; exact hP9, va_K.moved hW.alike hK9, hD9⟩⟩, hS.F ht⟩) hS.2.2 dX4_readField_38

set_option maxHeartbeats 4000000 in
set_option maxRecDepth 100000 in
theorem c_X6_replaceBy (l : Launch) (dC : Nat → ClassId) (dI : Nat → Nat → Nat) (h0 tp nw dr rd sc sk fl ps sh nm nb p0 dm db ss : Nat) (sz : Nat) : Met l yX6_replaceBy (.code yX6_replaceBy cX6_replaceBy 2 none :: pw) ({ frames := 1, cells := 0, slots := 0, locals := 22 }) (pc (dC, dI) [.ref h0, .ref p0] sz [(h0, .inr (6, [.ref tp, .int 0, .ref nw, .ref dr, .ref rd, .ref sc, .ref sk, .ref fl, .ref ps, .int 0, .int 0, .ref sh])), (nw, .inr (1, [.ref nm, .ref nb, .int 0, .int 0, .int 0])), (p0, .inr (1, [.ref dm, .ref db, .int 0, .int 0, .int 0])), (sc, .inr (5, [.ref nw, .ref ss, .int 0, .int (-1), .int 0, .int 0, .int 0, .int 0, .int 0]))] []) (va_Qv (fun (_ : Unit) => True) (fun _ t => wB (dC, dI) [(h0, .inr (6, [.ref tp, .int 0, .ref nw, .ref dr, .ref rd, .ref sc, .ref sk, .ref fl, .ref ps, .int 0, .int 0, .ref sh])), (nw, .inr (1, [.ref nm, .ref nb, .int 0, .int 0, .int 0]))] [] (va_A [(h0, .inr (6, [.ref tp, .int 0, .ref nw, .ref dr, .ref rd, .ref sc, .ref sk, .ref fl, .ref ps, .int 0, .int 0, .ref sh])), (nw, .inr (1, [.ref nm, .ref nb, .int 0, .int 0, .int 0])), (p0, .inr (1, [.ref dm, .ref db, .int 0, .int 0, .int 0])), (sc, .inr (5, [.ref nw, .ref ss, .int 0, .int (-1), .int 0, .int 0, .int 0, .int 0, .int 0]))] sz) t) (va_A [(h0, .inr (6, [.ref tp, .int 0, .ref nw, .ref dr, .ref rd, .ref sc, .ref sk, .ref fl, .ref ps, .int 0, .int 0, .ref sh])), (nw, .inr (1, [.ref nm, .ref nb, .int 0, .int 0, .int 0])), (p0, .inr (1, [.ref dm, .ref db, .int 0, .int 0, .int 0])), (sc, .inr (5, [.ref nw, .ref ss, .int 0, .int (-1), .int 0, .int 0, .int 0, .int 0, .int 0]))] sz)) 0 0 (va_A [(h0, .inr (6, [.ref tp, .int 0, .ref nw, .ref dr, .ref rd, .ref sc, .ref sk, .ref fl, .ref ps, .int 0, .int 0, .ref sh])), (nw, .inr (1, [.ref nm, .ref nb, .int 0, .int 0, .int 0])), (p0, .inr (1, [.ref dm, .ref db, .int 0, .int 0, .int 0])), (sc, .inr (5, [.ref nw, .ref ss, .int 0, .int (-1), .int 0, .int 0, .int 0, .int 0, .int 0]))] sz) := by
  refine Met.ofW (cc := cX6_replaceBy) (maxL := 2) (ret := none) (by decide +kernel) rfl ?_
  intro p e s m args below meth c s₁ B hml hv
  obtain ⟨rfl, hsz, hP, hK, hD0, hN⟩ := hv
  have hx := B.exec
  have hb := B.bytes
  have hr := B.returns
  have hts := fun w (h : w ∈ pw) => atoms_spec (ws := Cond.code yX6_replaceBy cX6_replaceBy 2 none :: pw) B.pre w (List.mem_cons_of_mem _ h)
  have hown : s.vm.findClass RX6 = some m.cls := findClass_of_methodNamed B.named
  have hlocks := B.notSynchronized
  subst hsz
  have hD := hD0.self (sz := s.heap.size)
  generalize hAe : va_A [(h0, .inr (6, [.ref tp, .int 0, .ref nw, .ref dr, .ref rd, .ref sc, .ref sk, .ref fl, .ref ps, .int 0, .int 0, .ref sh])), (nw, .inr (1, [.ref nm, .ref nb, .int 0, .int 0, .int 0])), (p0, .inr (1, [.ref dm, .ref db, .int 0, .int 0, .int 0])), (sc, .inr (5, [.ref nw, .ref ss, .int 0, .int (-1), .int 0, .int 0, .int 0, .int 0, .int 0]))] s.heap.size = A at hD ⊢
  have hA : ∀ q : Nat, s.heap.size ≤ q → A q := fun q h => by rw [← hAe]; exact Or.inr h
  obtain ⟨H, hHe⟩ : ∃ H : Heap, H = s.heap := ⟨_, rfl⟩
  have hS : va_S A s.heap H [] := by rw [hHe]; exact va_S.rf
  rw [← hHe] at hP
  have hl := lv_entry ([.ref h0, .ref p0]) (n := 2) (Nat.le_of_ble_eq_true rfl)
  rw [lg_entry_eq]
  generalize (lg_sl ([.ref h0, .ref p0]) ++ List.replicate (2 - (lg_sl ([.ref h0, .ref p0])).length) Slot.unset).toArray = ls at hl ⊢
  have hl : lv_has ls 2 [(0, .ref h0), (1, .ref p0)] := hl
  rw [← hHe]
  refine lv_aload_n hx hb dX6_replaceBy_0 rfl (lv_at hl 0 rfl) ?_
  refine va_get (D := (dC, dI)) (ci := 6) (v := .ref nw) (C := RX6) (T := TX6) (N := 12) hx hb hts inX6 hown hK hP 0 rfl rfl 2 (by decide) (hts _ pq351) (fun _ h9 => h9) rfl dX6_replaceBy_1 ?_
  refine lv_aload_n hx hb dX6_replaceBy_4 rfl (lv_at hl 1 rfl) ?_
  have hPc := hP.sub (ws' := [(nw, .inr (1, [.ref nm, .ref nb, .int 0, .int 0, .int 0])), (p0, .inr (1, [.ref dm, .ref db, .int 0, .int 0, .int 0]))]) [1, 2] rfl
  have hDc := hD.sub (ws' := [(nw, .inr (1, [.ref nm, .ref nb, .int 0, .int 0, .int 0])), (p0, .inr (1, [.ref dm, .ref db, .int 0, .int 0, .int 0]))]) [1, 2] (by decide) rfl
  have hKc := hK.sub (tys' := []) [] rfl
  have hFc := va_free (wc := [(nw, .inr (1, [.ref nm, .ref nb, .int 0, .int 0, .int 0])), (p0, .inr (1, [.ref dm, .ref db, .int 0, .int 0, .int 0]))]) hD hS hA [1, 2] rfl
  refine va_callv (va_runV (As := [.ref p0]) (rest := []) ⟨hx, hb, hml, hown, hts⟩ (c_X1_become l dC dI nw nm nb p0 dm db H.size  ) (cwV 1 hts (gV pq589 pq590 pq591 pq75 pq592) rfl rfl rfl (by decide +kernel) ⟨(Nat.le_of_ble_eq_true rfl), (Nat.le_of_ble_eq_true rfl)⟩) (pc_V hPc hDc hKc hN (va_recv hK hP (ci := 1) (q0 := 1) rfl rfl)) rfl rfl hl.1 rfl (lv_room (Nat.le_of_ble_eq_true rfl)) dX6_replaceBy_5 ⟨(Nat.le_of_ble_eq_true rfl), (Nat.le_of_ble_eq_true rfl)⟩) hS (fun q _ h => hFc q h) hFc (fun u t H1 locs ht hvm hw hB hz1 hk1 hS => ?_)
  obtain ⟨hP1, hK1, hD1⟩ := hB
  rw [ht] at hP1
  have hK1 := va_K.moved hvm.symm hK1
  obtain ⟨hP, hD⟩ := va_join (wr := [(h0, .inr (6, [.ref tp, .int 0, .ref nw, .ref dr, .ref rd, .ref sc, .ref sk, .ref fl, .ref ps, .int 0, .int 0, .ref sh])), (sc, .inr (5, [.ref nw, .ref ss, .int 0, .int (-1), .int 0, .int 0, .int 0, .int 0, .int 0]))]) (w1 := [(nw, .inr (1, [.ref nm, .ref nb, .int 0, .int 0, .int 0])), (p0, .inr (1, [.ref dm, .ref db, .int 0, .int 0, .int 0]))]) hP hD [1, 2] [0, 3] rfl rfl (by decide) (by decide) hk1 hFc hP1 hD1
  generalize H1 = H at hP hS ⊢
  have hP : va_P (dC, dI) vwCl [(h0, .inr (6, [.ref tp, .int 0, .ref nw, .ref dr, .ref rd, .ref sc, .ref sk, .ref fl, .ref ps, .int 0, .int 0, .ref sh])), (sc, .inr (5, [.ref nw, .ref ss, .int 0, .int (-1), .int 0, .int 0, .int 0, .int 0, .int 0])), (nw, .inr (1, [.ref nm, .ref nb, .int 0, .int 0, .int 0])), (p0, .inr (1, [.ref dm, .ref db, .int 0, .int 0, .int 0]))] H := hP
  have hD : va_D A [(h0, .inr (6, [.ref tp, .int 0, .ref nw, .ref dr, .ref rd, .ref sc, .ref sk, .ref fl, .ref ps, .int 0, .int 0, .ref sh])), (sc, .inr (5, [.ref nw, .ref ss, .int 0, .int (-1), .int 0, .int 0, .int 0, .int 0, .int 0])), (nw, .inr (1, [.ref nm, .ref nb, .int 0, .int 0, .int 0])), (p0, .inr (1, [.ref dm, .ref db, .int 0, .int 0, .int 0]))] := hD
  refine lv_aload_n hx hb dX6_replaceBy_8 rfl (lv_at hl 0 rfl) ?_
  refine va_get (D := (dC, dI)) (ci := 6) (v := .ref sc) (C := RX6) (T := TX6) (N := 12) hx hb hts inX6 hown hK hP 0 rfl rfl 5 (by decide) (hts _ pq354) (fun _ h9 => h9) rfl dX6_replaceBy_9 ?_
  have hPc := hP.sub (ws' := [(sc, .inr (5, [.ref nw, .ref ss, .int 0, .int (-1), .int 0, .int 0, .int 0, .int 0, .int 0])), (nw, .inr (1, [.ref nm, .ref nb, .int 0, .int 0, .int 0]))]) [1, 2] rfl
  have hDc := hD.sub (ws' := [(sc, .inr (5, [.ref nw, .ref ss, .int 0, .int (-1), .int 0, .int 0, .int 0, .int 0, .int 0])), (nw, .inr (1, [.ref nm, .ref nb, .int 0, .int 0, .int 0]))]) [1, 2] (by decide) rfl
  have hKc := hK.sub (tys' := []) [] rfl
  refine ro_v (va_runV (As := []) (rest := []) ⟨hx, hb, hml, hown, hts⟩ (c_X5_redraw l dC dI sc nw ss nm nb H.size  ) (cwV 0 hts (gV pq604 pq605 pq606 pq79 pq607) rfl rfl rfl (by decide +kernel) ⟨(Nat.le_of_ble_eq_true rfl), (Nat.le_of_ble_eq_true rfl)⟩) (pc_V hPc hDc hKc hN (va_recv hK hP (ci := 5) (q0 := 1) rfl rfl)) rfl rfl hl.1 rfl (lv_room (Nat.le_of_ble_eq_true rfl)) dX6_replaceBy_12 ⟨(Nat.le_of_ble_eq_true rfl), (Nat.le_of_ble_eq_true rfl)⟩) hS hP (fun H locs hP hS => ?_)
  refine lv_aload_n hx hb dX6_replaceBy_15 rfl (lv_at hl 0 rfl) ?_
  refine lv_iconst (v := 0) hx hb dX6_replaceBy_16 (by decide +kernel) ?_
  refine va_put (D := (dC, dI)) (ci := 6) (v := .int 0) (ty := tyX6 10) (C := RX6) (T := TX6) (N := 12) hx hb hts inX6 tyX6 tyX6_ok nmX6 hown hK hP hD hS 0 rfl rfl 10 (by decide) (hts _ pq359) (fun _ h9 => h9) rfl (by decide +kernel) rfl rfl (Nat.le_of_ble_eq_true rfl) dX6_replaceBy_17 (fun H locs hP hD hS => ?_)
  have hP : va_P (dC, dI) vwCl [(h0, .inr (6, [.ref tp, .int 0, .ref nw, .ref dr, .ref rd, .ref sc, .ref sk, .ref fl, .ref ps, .int 0, .int 0, .ref sh])), (sc, .inr (5, [.ref nw, .ref ss, .int 0, .int (-1), .int 0, .int 0, .int 0, .int 0, .int 0])), (nw, .inr (1, [.ref nm, .ref nb, .int 0, .int 0, .int 0])), (p0, .inr (1, [.ref dm, .ref db, .int 0, .int 0, .int 0]))] H := hP
  have hD : va_D A [(h0, .inr (6, [.ref tp, .int 0, .ref nw, .ref dr, .ref rd, .ref sc, .ref sk, .ref fl, .ref ps, .int 0, .int 0, .ref sh])), (sc, .inr (5, [.ref nw, .ref ss, .int 0, .int (-1), .int 0, .int 0, .int 0, .int 0, .int 0])), (nw, .inr (1, [.ref nm, .ref nb, .int 0, .int 0, .int 0])), (p0, .inr (1, [.ref dm, .ref db, .int 0, .int 0, .int 0]))] := hD
  have hP9 := hP.sub (ws' := [(h0, .inr (6, [.ref tp, .int 0, .ref nw, .ref dr, .ref rd, .ref sc, .ref sk, .ref fl, .ref ps, .int 0, .int 0, .ref sh])), (nw, .inr (1, [.ref nm, .ref nb, .int 0, .int 0, .int 0]))]) [0, 2] rfl
  have hD9 := hD.sub (ws' := [(h0, .inr (6, [.ref tp, .int 0, .ref nw, .ref dr, .ref rd, .ref sc, .ref sk, .ref fl, .ref ps, .int 0, .int 0, .ref sh])), (nw, .inr (1, [.ref nm, .ref nb, .int 0, .int 0, .int 0]))]) [0, 2] (by decide) rfl
  have hK9 := hK.sub (tys' := []) [] rfl
  exact W.vret hx hb hr (fun t ht hW => ⟨⟨(), rfl, trivial, ⟨by rw [ht]; exact hP9, va_K.moved hW.alike hK9, hD9⟩⟩, hS.F ht⟩) hS.2.2 dX6_replaceBy_20

set_option maxHeartbeats 4000000 in
set_option maxRecDepth 100000 in
theorem c_X6_tell (l : Launch) (dC : Nat → ClassId) (dI : Nat → Nat → Nat) (h0 tp nw dr rd sc sk fl ps sh nm nb dm db ss : Nat) (kB : ClassId) (sz : Nat) : Met l yX6_tell (.code yX6_tell cX6_tell 2 (some .int) :: pw) ({ frames := 3, cells := 0, slots := 0, locals := 64 }) (pc (dC, dI) [.ref h0] sz [(h0, .inr (6, [.ref tp, .int 0, .ref nw, .ref dr, .ref rd, .ref sc, .ref sk, .ref fl, .ref ps, .int 0, .int 0, .ref sh])), (tp, .inl (kB, 400, .inl (fun _ => 0))), (nw, .inr (1, [.ref nm, .ref nb, .int 0, .int 0, .int 0])), (dr, .inr (1, [.ref dm, .ref db, .int 0, .int 0, .int 0])), (rd, .inr (4, [.ref tp, .int 0, .int 0, .int 0, .int 0, .int 0])), (sc, .inr (5, [.ref nw, .ref ss, .int 0, .int (-1), .int 0, .int 0, .int 0, .int 0, .int 0]))] [(kB, .byte)]) (va_Qi (fun (r : Int32) (_ : Unit) => r = 0) (fun _ _ => True) (va_A [(h0, .inr (6, [.ref tp, .int 0, .ref nw, .ref dr, .ref rd, .ref sc, .ref sk, .ref fl, .ref ps, .int 0, .int 0, .ref sh])), (tp, .inl (kB, 400, .inl (fun _ => 0))), (nw, .inr (1, [.ref nm, .ref nb, .int 0, .int 0, .int 0])), (dr, .inr (1, [.ref dm, .ref db, .int 0, .int 0, .int 0])), (rd, .inr (4, [.ref tp, .int 0, .int 0, .int 0, .int 0, .int 0])), (sc, .inr (5, [.ref nw, .ref ss, .int 0, .int (-1), .int 0, .int 0, .int 0, .int 0, .int 0]))] sz)) 0 0 (va_A [(h0, .inr (6, [.ref tp, .int 0, .ref nw, .ref dr, .ref rd, .ref sc, .ref sk, .ref fl, .ref ps, .int 0, .int 0, .ref sh])), (tp, .inl (kB, 400, .inl (fun _ => 0))), (nw, .inr (1, [.ref nm, .ref nb, .int 0, .int 0, .int 0])), (dr, .inr (1, [.ref dm, .ref db, .int 0, .int 0, .int 0])), (rd, .inr (4, [.ref tp, .int 0, .int 0, .int 0, .int 0, .int 0])), (sc, .inr (5, [.ref nw, .ref ss, .int 0, .int (-1), .int 0, .int 0, .int 0, .int 0, .int 0]))] sz) := by
  refine Met.ofW (cc := cX6_tell) (maxL := 2) (ret := (some .int)) (by decide +kernel) rfl ?_
  intro p e s m args below meth c s₁ B hml hv
  obtain ⟨rfl, hsz, hP, hK, hD0, hN⟩ := hv
  have hx := B.exec
  have hb := B.bytes
  have hr := B.returns
  have hts := fun w (h : w ∈ pw) => atoms_spec (ws := Cond.code yX6_tell cX6_tell 2 (some .int) :: pw) B.pre w (List.mem_cons_of_mem _ h)
  have hown : s.vm.findClass RX6 = some m.cls := findClass_of_methodNamed B.named
  have hlocks := B.notSynchronized
  subst hsz
  have hD := hD0.self (sz := s.heap.size)
  generalize hAe : va_A [(h0, .inr (6, [.ref tp, .int 0, .ref nw, .ref dr, .ref rd, .ref sc, .ref sk, .ref fl, .ref ps, .int 0, .int 0, .ref sh])), (tp, .inl (kB, 400, .inl (fun _ => 0))), (nw, .inr (1, [.ref nm, .ref nb, .int 0, .int 0, .int 0])), (dr, .inr (1, [.ref dm, .ref db, .int 0, .int 0, .int 0])), (rd, .inr (4, [.ref tp, .int 0, .int 0, .int 0, .int 0, .int 0])), (sc, .inr (5, [.ref nw, .ref ss, .int 0, .int (-1), .int 0, .int 0, .int 0, .int 0, .int 0]))] s.heap.size = A at hD ⊢
  have hA : ∀ q : Nat, s.heap.size ≤ q → A q := fun q h => by rw [← hAe]; exact Or.inr h
  obtain ⟨H, hHe⟩ : ∃ H : Heap, H = s.heap := ⟨_, rfl⟩
  have hS : va_S A s.heap H [] := by rw [hHe]; exact va_S.rf
  rw [← hHe] at hP
  have hl := lv_entry ([.ref h0]) (n := 2) (Nat.le_of_ble_eq_true rfl)
  rw [lg_entry_eq]
  generalize (lg_sl ([.ref h0]) ++ List.replicate (2 - (lg_sl ([.ref h0])).length) Slot.unset).toArray = ls at hl ⊢
  have hl : lv_has ls 2 [(0, .ref h0)] := hl
  rw [← hHe]
  refine lv_aload_n hx hb dX6_tell_0 rfl (lv_at hl 0 rfl) ?_
  refine va_get (D := (dC, dI)) (ci := 6) (v := .ref rd) (C := RX6) (T := TX6) (N := 12) hx hb hts inX6 hown hK hP 0 rfl rfl 4 (by decide) (hts _ pq353) (fun _ h9 => h9) rfl dX6_tell_1 ?_
  refine lv_aload_n hx hb dX6_tell_4 rfl (lv_at hl 0 rfl) ?_
  refine va_get (D := (dC, dI)) (ci := 6) (v := .int 0) (C := RX6) (T := TX6) (N := 12) hx hb hts inX6 hown hK hP 0 rfl rfl 1 (by decide) (hts _ pq350) (fun _ h9 => h9) rfl dX6_tell_5 ?_
  refine lv_aload_n hx hb dX6_tell_8 rfl (lv_at hl 0 rfl) ?_
  refine va_get (D := (dC, dI)) (ci := 6) (v := .ref dr) (C := RX6) (T := TX6) (N := 12) hx hb hts inX6 hown hK hP 0 rfl rfl 3 (by decide) (hts _ pq352) (fun _ h9 => h9) rfl dX6_tell_9 ?_
  have hPc := hP.sub (ws' := [(rd, .inr (4, [.ref tp, .int 0, .int 0, .int 0, .int 0, .int 0])), (tp, .inl (kB, 400, .inl (fun _ => 0))), (dr, .inr (1, [.ref dm, .ref db, .int 0, .int 0, .int 0]))]) [4, 1, 3] rfl
  have hDc := hD.sub (ws' := [(rd, .inr (4, [.ref tp, .int 0, .int 0, .int 0, .int 0, .int 0])), (tp, .inl (kB, 400, .inl (fun _ => 0))), (dr, .inr (1, [.ref dm, .ref db, .int 0, .int 0, .int 0]))]) [4, 1, 3] (by decide) rfl
  have hKc := hK.sub (tys' := [(kB, .byte)]) [0] rfl
  have hFc := va_free (wc := [(rd, .inr (4, [.ref tp, .int 0, .int 0, .int 0, .int 0, .int 0])), (tp, .inl (kB, 400, .inl (fun _ => 0))), (dr, .inr (1, [.ref dm, .ref db, .int 0, .int 0, .int 0]))]) hD hS hA [4, 1, 3] rfl
  refine va_calli (va_runV (As := [.int 0, .ref dr]) (rest := []) ⟨hx, hb, hml, hown, hts⟩ (c_X4_readField l dC dI rd tp dr dm db kB H.size  ) (cwV 2 hts (gV pq402 pq403 pq404 pq78 pq405) rfl rfl rfl (by decide +kernel) ⟨(Nat.le_of_ble_eq_true rfl), (Nat.le_of_ble_eq_true rfl)⟩) (pc_V hPc hDc hKc hN (va_recv hK hP (ci := 4) (q0 := 4) rfl rfl)) rfl rfl hl.1 rfl (lv_room (Nat.le_of_ble_eq_true rfl)) dX6_tell_12 ⟨(Nat.le_of_ble_eq_true rfl), (Nat.le_of_ble_eq_true rfl)⟩) hS (fun q _ h => hFc q h) hFc (fun r1 u t H1 locs ht hvm hw hB hz1 hk1 hS => ?_)
  obtain ⟨hP1, hK1, hD1⟩ := hB
  rw [ht] at hP1
  have hK1 := va_K.moved hvm.symm hK1
  obtain ⟨hP, hD⟩ := va_join (wr := [(h0, .inr (6, [.ref tp, .int 0, .ref nw, .ref dr, .ref rd, .ref sc, .ref sk, .ref fl, .ref ps, .int 0, .int 0, .ref sh])), (nw, .inr (1, [.ref nm, .ref nb, .int 0, .int 0, .int 0])), (sc, .inr (5, [.ref nw, .ref ss, .int 0, .int (-1), .int 0, .int 0, .int 0, .int 0, .int 0]))]) (w1 := [(rd, .inr (4, [.ref tp, .int 0, .int 0, .int 0, .int 0, .int 0])), (dr, .inr (1, [.ref dm, .ref db, .int 0, .int 0, .int 0]))]) hP hD [4, 1, 3] [0, 2, 5] rfl rfl (by decide) (by decide) hk1 hFc hP1 hD1
  generalize H1 = H at hP hS ⊢
  have hP : va_P (dC, dI) vwCl [(h0, .inr (6, [.ref tp, .int 0, .ref nw, .ref dr, .ref rd, .ref sc, .ref sk, .ref fl, .ref ps, .int 0, .int 0, .ref sh])), (nw, .inr (1, [.ref nm, .ref nb, .int 0, .int 0, .int 0])), (sc, .inr (5, [.ref nw, .ref ss, .int 0, .int (-1), .int 0, .int 0, .int 0, .int 0, .int 0])), (rd, .inr (4, [.ref tp, .int 0, .int 0, .int 0, .int 0, .int 0])), (dr, .inr (1, [.ref dm, .ref db, .int 0, .int 0, .int 0]))] H := hP
  have hD : va_D A [(h0, .inr (6, [.ref tp, .int 0, .ref nw, .ref dr, .ref rd, .ref sc, .ref sk, .ref fl, .ref ps, .int 0, .int 0, .ref sh])), (nw, .inr (1, [.ref nm, .ref nb, .int 0, .int 0, .int 0])), (sc, .inr (5, [.ref nw, .ref ss, .int 0, .int (-1), .int 0, .int 0, .int 0, .int 0, .int 0])), (rd, .inr (4, [.ref tp, .int 0, .int 0, .int 0, .int 0, .int 0])), (dr, .inr (1, [.ref dm, .ref db, .int 0, .int 0, .int 0]))] := hD
  obtain rfl := hw
  refine lv_istore_n (lv' := [(1, .int 0), (0, .ref h0)]) hx hb dX6_tell_15 rfl hl (by decide) rfl (fun ls hl => ?_)
  refine lv_aload_n hx hb dX6_tell_16 rfl (lv_at hl 1 rfl) ?_
  refine lv_iconst (v := 0) hx hb dX6_tell_17 (by decide +kernel) ?_
  refine va_put (D := (dC, dI)) (ci := 6) (v := .int 0) (ty := tyX6 1) (C := RX6) (T := TX6) (N := 12) hx hb hts inX6 tyX6 tyX6_ok nmX6 hown hK hP hD hS 0 rfl rfl 1 (by decide) (hts _ pq350) (fun _ h9 => h9) rfl (by decide +kernel) rfl rfl (Nat.le_of_ble_eq_true rfl) dX6_tell_18 (fun H locs hP hD hS => ?_)
  have hP : va_P (dC, dI) vwCl [(h0, .inr (6, [.ref tp, .int 0, .ref nw, .ref dr, .ref rd, .ref sc, .ref sk, .ref fl, .ref ps, .int 0, .int 0, .ref sh])), (nw, .inr (1, [.ref nm, .ref nb, .int 0, .int 0, .int 0])), (sc, .inr (5, [.ref nw, .ref ss, .int 0, .int (-1), .int 0, .int 0, .int 0, .int 0, .int 0])), (rd, .inr (4, [.ref tp, .int 0, .int 0, .int 0, .int 0, .int 0])), (dr, .inr (1, [.ref dm, .ref db, .int 0, .int 0, .int 0]))] H := hP
  have hD : va_D A [(h0, .inr (6, [.ref tp, .int 0, .ref nw, .ref dr, .ref rd, .ref sc, .ref sk, .ref fl, .ref ps, .int 0, .int 0, .ref sh])), (nw, .inr (1, [.ref nm, .ref nb, .int 0, .int 0, .int 0])), (sc, .inr (5, [.ref nw, .ref ss, .int 0, .int (-1), .int 0, .int 0, .int 0, .int 0, .int 0])), (rd, .inr (4, [.ref tp, .int 0, .int 0, .int 0, .int 0, .int 0])), (dr, .inr (1, [.ref dm, .ref db, .int 0, .int 0, .int 0]))] := hD
  refine lv_iload_n hx hb dX6_tell_21 rfl (lv_at hl 0 rfl) ?_
  refine lv_if_eq (tgt := 30) hx hb dX6_tell_22 (by decide) (fun c2 => ?_) (fun c2 => absurd (by decide +kernel) c2)
  refine lv_aload_n hx hb dX6_tell_30 rfl (lv_at hl 1 rfl) ?_
  refine lv_aload_n hx hb dX6_tell_31 rfl (lv_at hl 1 rfl) ?_
  refine va_get (D := (dC, dI)) (ci := 6) (v := .ref dr) (C := RX6) (T := TX6) (N := 12) hx hb hts inX6 hown hK hP 0 rfl rfl 3 (by decide) (hts _ pq352) (fun _ h9 => h9) rfl dX6_tell_32 ?_
  have hPc := hP.sub (ws' := [(h0, .inr (6, [.ref tp, .int 0, .ref nw, .ref dr, .ref rd, .ref sc, .ref sk, .ref fl, .ref ps, .int 0, .int 0, .ref sh])), (nw, .inr (1, [.ref nm, .ref nb, .int 0, .int 0, .int 0])), (dr, .inr (1, [.ref dm, .ref db, .int 0, .int 0, .int 0])), (sc, .inr (5, [.ref nw, .ref ss, .int 0, .int (-1), .int 0, .int 0, .int 0, .int 0, .int 0]))]) [0, 1, 4, 2] rfl
  have hDc := hD.sub (ws' := [(h0, .inr (6, [.ref tp, .int 0, .ref nw, .ref dr, .ref rd, .ref sc, .ref sk, .ref fl, .ref ps, .int 0, .int 0, .ref sh])), (nw, .inr (1, [.ref nm, .ref nb, .int 0, .int 0, .int 0])), (dr, .inr (1, [.ref dm, .ref db, .int 0, .int 0, .int 0])), (sc, .inr (5, [.ref nw, .ref ss, .int 0, .int (-1), .int 0, .int 0, .int 0, .int 0, .int 0]))]) [0, 1, 4, 2] (by decide) rfl
  have hKc := hK.sub (tys' := []) [] rfl
  have hFc := va_free (wc := [(h0, .inr (6, [.ref tp, .int 0, .ref nw, .ref dr, .ref rd, .ref sc, .ref sk, .ref fl, .ref ps, .int 0, .int 0, .ref sh])), (nw, .inr (1, [.ref nm, .ref nb, .int 0, .int 0, .int 0])), (dr, .inr (1, [.ref dm, .ref db, .int 0, .int 0, .int 0])), (sc, .inr (5, [.ref nw, .ref ss, .int 0, .int (-1), .int 0, .int 0, .int 0, .int 0, .int 0]))]) hD hS hA [0, 1, 4, 2] rfl
  refine va_callv (va_runV (As := [.ref dr]) (rest := []) ⟨hx, hb, hml, hown, hts⟩ (c_X6_replaceBy l dC dI h0 tp nw dr rd sc sk fl ps sh nm nb dr dm db ss H.size  ) (cwV 1 hts (gV pq585 pq587 pq1 pq74 pq588) rfl rfl rfl (by decide +kernel) ⟨(Nat.le_of_ble_eq_true rfl), (Nat.le_of_ble_eq_true rfl)⟩) (pc_V hPc hDc hKc hN (va_recv hK hP (ci := 6) (q0 := 0) rfl rfl)) rfl rfl hl.1 rfl (lv_room (Nat.le_of_ble_eq_true rfl)) dX6_tell_35 ⟨(Nat.le_of_ble_eq_true rfl), (Nat.le_of_ble_eq_true rfl)⟩) hS (fun q _ h => hFc q h) hFc (fun u t H1 locs ht hvm hw hB hz1 hk1 hS => ?_)
  obtain ⟨hP1, hK1, hD1⟩ := hB
  rw [ht] at hP1
  have hK1 := va_K.moved hvm.symm hK1
  obtain ⟨hP, hD⟩ := va_join (wr := [(rd, .inr (4, [.ref tp, .int 0, .int 0, .int 0, .int 0, .int 0]))]) (w1 := [(h0, .inr (6, [.ref tp, .int 0, .ref nw, .ref dr, .ref rd, .ref sc, .ref sk, .ref fl, .ref ps, .int 0, .int 0, .ref sh])), (nw, .inr (1, [.ref nm, .ref nb, .int 0, .int 0, .int 0]))]) hP hD [0, 1, 4, 2] [3] rfl rfl (by decide) (by decide) hk1 hFc hP1 hD1
  generalize H1 = H at hP hS ⊢
  have hP : va_P (dC, dI) vwCl [(rd, .inr (4, [.ref tp, .int 0, .int 0, .int 0, .int 0, .int 0])), (h0, .inr (6, [.ref tp, .int 0, .ref nw, .ref dr, .ref rd, .ref sc, .ref sk, .ref fl, .ref ps, .int 0, .int 0, .ref sh])), (nw, .inr (1, [.ref nm, .ref nb, .int 0, .int 0, .int 0]))] H := hP
  have hD : va_D A [(rd, .inr (4, [.ref tp, .int 0, .int 0, .int 0, .int 0, .int 0])), (h0, .inr (6, [.ref tp, .int 0, .ref nw, .ref dr, .ref rd, .ref sc, .ref sk, .ref fl, .ref ps, .int 0, .int 0, .ref sh])), (nw, .inr (1, [.ref nm, .ref nb, .int 0, .int 0, .int 0]))] := hD
  refine lv_aload_n hx hb dX6_tell_38 rfl (lv_at hl 1 rfl) ?_
  refine va_get (D := (dC, dI)) (ci := 6) (v := .ref nw) (C := RX6) (T := TX6) (N := 12) hx hb hts inX6 hown hK hP 1 rfl rfl 2 (by decide) (hts _ pq351) (fun _ h9 => h9) rfl dX6_tell_39 ?_
  refine va_get (D := (dC, dI)) (ci := 1) (v := .int 0) (C := RX1) (T := TX1) (N := 5) hx hb hts inX1 hown hK hP 2 rfl rfl 3 (by decide) (hts _ pq226) (fun _ h9 => h9) rfl dX6_tell_42 ?_
  exact W.iret (v := 0) hx hb hr (fun t ht hW => ⟨⟨0, (), rfl, rfl, trivial⟩, hS.F ht⟩) hS.2.2 dX6_tell_45

set_option maxHeartbeats 4000000 in
set_option maxRecDepth 100000 in
theorem c_X6_keep (l : Launch) (dC : Nat → ClassId) (dI : Nat → Nat → Nat) (h0 tp nw dr rd sc sk fl ps sh nm nb : Nat) (kG : ClassId) (sz : Nat) (p0 : Int32) : Met l yX6_keep (.code yX6_keep cX6_keep 3 (some .int) :: pw) ({ frames := 3, cells := 29, slots := 807, locals := 53 }) (pc (dC, dI) [.ref h0, .int p0] sz [(h0, .inr (6, [.ref tp, .int 0, .ref nw, .ref dr, .ref rd, .ref sc, .ref sk, .ref fl, .ref ps, .int 0, .int 0, .ref sh])), (nw, .inr (1, [.ref nm, .ref nb, .int 0, .int 0, .int 0])), (sh, .inl (kG, 2, .inr (.inr (.inr (.inr (fun _ => none))))))] [(kG, .object RX1)]) (va_Qi (fun (r : Int32) (_ : Unit) => r = if p0 < 0 ∨ 1 < p0 then (-1) else 0) (fun _ _ => True) (va_A [(h0, .inr (6, [.ref tp, .int 0, .ref nw, .ref dr, .ref rd, .ref sc, .ref sk, .ref fl, .ref ps, .int 0, .int 0, .ref sh])), (nw, .inr (1, [.ref nm, .ref nb, .int 0, .int 0, .int 0])), (sh, .inl (kG, 2, .inr (.inr (.inr (.inr (fun _ => none))))))] sz)) 29 807 (va_A [(h0, .inr (6, [.ref tp, .int 0, .ref nw, .ref dr, .ref rd, .ref sc, .ref sk, .ref fl, .ref ps, .int 0, .int 0, .ref sh])), (nw, .inr (1, [.ref nm, .ref nb, .int 0, .int 0, .int 0])), (sh, .inl (kG, 2, .inr (.inr (.inr (.inr (fun _ => none))))))] sz) := by
  refine Met.ofW (cc := cX6_keep) (maxL := 3) (ret := (some .int)) (by decide +kernel) rfl ?_
  intro p e s m args below meth c s₁ B hml hv
  obtain ⟨rfl, hsz, hP, hK, hD0, hN⟩ := hv
  have hx := B.exec
  have hb := B.bytes
  have hr := B.returns
  have hts := fun w (h : w ∈ pw) => atoms_spec (ws := Cond.code yX6_keep cX6_keep 3 (some .int) :: pw) B.pre w (List.mem_cons_of_mem _ h)
  have hown : s.vm.findClass RX6 = some m.cls := findClass_of_methodNamed B.named
  have hlocks := B.notSynchronized
  subst hsz
  have hD := hD0.self (sz := s.heap.size)
  generalize hAe : va_A [(h0, .inr (6, [.ref tp, .int 0, .ref nw, .ref dr, .ref rd, .ref sc, .ref sk, .ref fl, .ref ps, .int 0, .int 0, .ref sh])), (nw, .inr (1, [.ref nm, .ref nb, .int 0, .int 0, .int 0])), (sh, .inl (kG, 2, .inr (.inr (.inr (.inr (fun _ => none))))))] s.heap.size = A at hD ⊢
  have hA : ∀ q : Nat, s.heap.size ≤ q → A q := fun q h => by rw [← hAe]; exact Or.inr h
  obtain ⟨H, hHe⟩ : ∃ H : Heap, H = s.heap := ⟨_, rfl⟩
  have hS : va_S A s.heap H [] := by rw [hHe]; exact va_S.rf
  rw [← hHe] at hP
  have hl := lv_entry ([.ref h0, .int p0]) (n := 3) (Nat.le_of_ble_eq_true rfl)
  rw [lg_entry_eq]
  generalize (lg_sl ([.ref h0, .int p0]) ++ List.replicate (3 - (lg_sl ([.ref h0, .int p0])).length) Slot.unset).toArray = ls at hl ⊢
  have hl : lv_has ls 3 [(0, .ref h0), (1, .int p0)] := hl
  rw [← hHe]
  refine lv_iload_n hx hb dX6_keep_0 rfl (lv_at hl 1 rfl) ?_
  refine lv_iconst (v := 1) hx hb dX6_keep_1 (by decide +kernel) ?_
  have hPc := hP.sub (ws' := []) [] rfl
  have hDc := hD.sub (ws' := []) [] (by decide) rfl
  have hKc := hK.sub (tys' := []) [] rfl
  refine ro_i (va_runS (As := [.int p0, .int 1]) (rest := []) ⟨hx, hb, hml, hown, hts⟩ (c_X6_isFrom0To l dC dI  H.size p0 1 ) (va_cwS 2 hts (gS pq651 pq652 pq74 pq653) rfl rfl rfl (by decide +kernel) ⟨(Nat.le_of_ble_eq_true rfl), (Nat.le_of_ble_eq_true rfl)⟩) (pc_S hPc hDc hKc hN) rfl rfl hl.1 rfl (lv_room (Nat.le_of_ble_eq_true rfl)) dX6_keep_2 ⟨(Nat.le_of_ble_eq_true rfl), (Nat.le_of_ble_eq_true rfl)⟩) hS hP (fun r1 H locs hr1 hP hS => ?_)
  refine lv_if_ne (tgt := 10) hx hb dX6_keep_5 (by decide) (fun c2 => ?_) (fun c2 => ?_)
  · refine lv_aload_n hx hb dX6_keep_10 rfl (lv_at hl 0 rfl) ?_
    refine va_get (D := (dC, dI)) (ci := 6) (v := .ref sh) (C := RX6) (T := TX6) (N := 12) hx hb hts inX6 hown hK hP 0 rfl rfl 11 (by decide) (hts _ pq360) (fun _ h9 => h9) rfl dX6_keep_11 ?_
    refine lv_iload_n hx hb dX6_keep_14 rfl (lv_at hl 1 rfl) ?_
    refine va_aldq hx hb hK hP 2 0 rfl rfl (in2 (rng_n hr1 c2)) dX6_keep_15 ?_
    refine W.eq (g2 := F0 m 16 ls [.null]) rfl ?_
    refine lv_astore_nN (lv' := [(2, .null), (0, .ref h0), (1, .int p0)]) hx hb dX6_keep_16 rfl hl (by decide) rfl (fun ls hl => ?_)
    refine lv_aload_nN hx hb dX6_keep_17 rfl (lv_at hl 0 rfl) ?_
    refine lv_ifnonnullN hx hb dX6_keep_18 ?_
    refine va_new (ci := 1) (fs := [.null, .null, .int 0, .int 0, .int 0]) (C := RX1) (T := TX1) (N := 5) hx hb hts inX1 tyX1 tyX1_ok hown (hts _ pq101) (hts _ pq102) (hts _ pq75) hK hP hD hS hA rfl dfX1 (Nat.le_of_ble_eq_true rfl) (Nat.le_of_ble_eq_true rfl) dX6_keep_21 (fun q3 H hP hD hS => ?_)
    have hP : va_P (dC, dI) vwCl [(h0, .inr (6, [.ref tp, .int 0, .ref nw, .ref dr, .ref rd, .ref sc, .ref sk, .ref fl, .ref ps, .int 0, .int 0, .ref sh])), (nw, .inr (1, [.ref nm, .ref nb, .int 0, .int 0, .int 0])), (sh, .inl (kG, 2, .inr (.inr (.inr (.inr (fun _ => none)))))), (q3, .inr (1, [.null, .null, .int 0, .int 0, .int 0]))] H := hP
    have hD : va_D A [(h0, .inr (6, [.ref tp, .int 0, .ref nw, .ref dr, .ref rd, .ref sc, .ref sk, .ref fl, .ref ps, .int 0, .int 0, .ref sh])), (nw, .inr (1, [.ref nm, .ref nb, .int 0, .int 0, .int 0])), (sh, .inl (kG, 2, .inr (.inr (.inr (.inr (fun _ => none)))))), (q3, .inr (1, [.null, .null, .int 0, .int 0, .int 0]))] := hD
    refine W.widen (k := 1) (n := 5) (Nat.le_of_ble_eq_true rfl) (Nat.le_of_ble_eq_true rfl) ?_
    refine lv_dup hx hb dX6_keep_24 rfl ?_
    have hPc := hP.sub (ws' := [(q3, .inr (1, [.null, .null, .int 0, .int 0, .int 0]))]) [3] rfl
    have hDc := hD.sub (ws' := [(q3, .inr (1, [.null, .null, .int 0, .int 0, .int 0]))]) [3] (by decide) rfl
    have hKc := hK.sub (tys' := []) [] rfl
    have hFc := va_free (wc := [(q3, .inr (1, [.null, .null, .int 0, .int 0, .int 0]))]) hD hS hA [3] rfl
    refine va_callv (va_runI (As := []) (rest := [.ref q3]) ⟨hx, hb, hml, hown, hts⟩ (c_X1_init l dC dI q3 H.size  ) (cwI 0 hts (gI pq105) rfl rfl rfl (hts _ pq75) (hts _ pq103) (hts _ pq104) rfl (by decide +kernel) ⟨(Nat.le_of_ble_eq_true rfl), (Nat.le_of_ble_eq_true rfl)⟩) (pc_S hPc hDc hKc hN) rfl rfl hl.1 rfl (lv_room (Nat.le_of_ble_eq_true rfl)) dX6_keep_25 ⟨(Nat.le_of_ble_eq_true rfl), (Nat.le_of_ble_eq_true rfl)⟩) hS (fun q _ h => hFc q h) hFc (fun u t H1 locs ht hvm hw hB hz1 hk1 hS => ?_)
    obtain ⟨q4, q5, hP1, hK1, hD1⟩ := hB
    rw [ht] at hP1
    have hK1 := va_K.moved hvm.symm hK1
    obtain ⟨hP, hD⟩ := va_join (wr := [(h0, .inr (6, [.ref tp, .int 0, .ref nw, .ref dr, .ref rd, .ref sc, .ref sk, .ref fl, .ref ps, .int 0, .int 0, .ref sh])), (nw, .inr (1, [.ref nm, .ref nb, .int 0, .int 0, .int 0])), (sh, .inl (kG, 2, .inr (.inr (.inr (.inr (fun _ => none))))))]) (w1 := [(q3, .inr (1, [.ref q4, .ref q5, .int 0, .int 0, .int 0]))]) hP hD [3] [0, 1, 2] rfl rfl (by decide) (by decide) hk1 hFc hP1 hD1
    generalize H1 = H at hP hS ⊢
    have hP : va_P (dC, dI) vwCl [(h0, .inr (6, [.ref tp, .int 0, .ref nw, .ref dr, .ref rd, .ref sc, .ref sk, .ref fl, .ref ps, .int 0, .int 0, .ref sh])), (nw, .inr (1, [.ref nm, .ref nb, .int 0, .int 0, .int 0])), (sh, .inl (kG, 2, .inr (.inr (.inr (.inr (fun _ => none)))))), (q3, .inr (1, [.ref q4, .ref q5, .int 0, .int 0, .int 0]))] H := hP
    have hD : va_D A [(h0, .inr (6, [.ref tp, .int 0, .ref nw, .ref dr, .ref rd, .ref sc, .ref sk, .ref fl, .ref ps, .int 0, .int 0, .ref sh])), (nw, .inr (1, [.ref nm, .ref nb, .int 0, .int 0, .int 0])), (sh, .inl (kG, 2, .inr (.inr (.inr (.inr (fun _ => none)))))), (q3, .inr (1, [.ref q4, .ref q5, .int 0, .int 0, .int 0]))] := hD
    refine W.widen (k := 29) (n := 807) (Nat.le_of_ble_eq_true rfl) (Nat.le_of_ble_eq_true rfl) ?_
    refine lv_astore_n (lv' := [(2, .ref q3), (0, .ref h0), (1, .int p0)]) hx hb dX6_keep_28 rfl hl (by decide) rfl (fun ls hl => ?_)
    refine lv_aload_n hx hb dX6_keep_29 rfl (lv_at hl 1 rfl) ?_
    refine va_get (D := (dC, dI)) (ci := 6) (v := .ref sh) (C := RX6) (T := TX6) (N := 12) hx hb hts inX6 hown hK hP 0 rfl rfl 11 (by decide) (hts _ pq360) (fun _ h9 => h9) rfl dX6_keep_30 ?_
    refine lv_iload_n hx hb dX6_keep_33 rfl (lv_at hl 2 rfl) ?_
    refine lv_aload_n hx hb dX6_keep_34 rfl (lv_at hl 0 rfl) ?_
    refine va_astq hx hb hK hP hD hS 2 0 3 1 rfl rfl rfl rfl (in2 (rng_n hr1 c2)) dX6_keep_35 (fun H locs hP hD hS => ?_)
    obtain ⟨f6, hP, hD⟩ : ∃ f6 : Nat → Option Nat, va_P (dC, dI) vwCl [(h0, .inr (6, [.ref tp, .int 0, .ref nw, .ref dr, .ref rd, .ref sc, .ref sk, .ref fl, .ref ps, .int 0, .int 0, .ref sh])), (nw, .inr (1, [.ref nm, .ref nb, .int 0, .int 0, .int 0])), (sh, .inl (kG, 2, .inr (.inr (.inr (.inr f6))))), (q3, .inr (1, [.ref q4, .ref q5, .int 0, .int 0, .int 0]))] H ∧ va_D A [(h0, .inr (6, [.ref tp, .int 0, .ref nw, .ref dr, .ref rd, .ref sc, .ref sk, .ref fl, .ref ps, .int 0, .int 0, .ref sh])), (nw, .inr (1, [.ref nm, .ref nb, .int 0, .int 0, .int 0])), (sh, .inl (kG, 2, .inr (.inr (.inr (.inr f6))))), (q3, .inr (1, [.ref q4, .ref q5, .int 0, .int 0, .int 0]))] := ⟨_, hP, hD⟩
    refine lv_aload_n hx hb dX6_keep_36 rfl (lv_at hl 0 rfl) ?_
    refine lv_aload_n hx hb dX6_keep_37 rfl (lv_at hl 1 rfl) ?_
    refine va_get (D := (dC, dI)) (ci := 6) (v := .ref nw) (C := RX6) (T := TX6) (N := 12) hx hb hts inX6 hown hK hP 0 rfl rfl 2 (by decide) (hts _ pq351) (fun _ h9 => h9) rfl dX6_keep_38 ?_
    have hPc := hP.sub (ws' := [(q3, .inr (1, [.ref q4, .ref q5, .int 0, .int 0, .int 0])), (nw, .inr (1, [.ref nm, .ref nb, .int 0, .int 0, .int 0]))]) [3, 1] rfl
    have hDc := hD.sub (ws' := [(q3, .inr (1, [.ref q4, .ref q5, .int 0, .int 0, .int 0])), (nw, .inr (1, [.ref nm, .ref nb, .int 0, .int 0, .int 0]))]) [3, 1] (by decide) rfl
    have hKc := hK.sub (tys' := []) [] rfl
    have hFc := va_free (wc := [(q3, .inr (1, [.ref q4, .ref q5, .int 0, .int 0, .int 0])), (nw, .inr (1, [.ref nm, .ref nb, .int 0, .int 0, .int 0]))]) hD hS hA [3, 1] rfl
    refine va_callv (va_runV (As := [.ref nw]) (rest := []) ⟨hx, hb, hml, hown, hts⟩ (c_X1_become l dC dI q3 q4 q5 nw nm nb H.size  ) (cwV 1 hts (gV pq589 pq590 pq591 pq75 pq592) rfl rfl rfl (by decide +kernel) ⟨(Nat.le_of_ble_eq_true rfl), (Nat.le_of_ble_eq_true rfl)⟩) (pc_V hPc hDc hKc hN (va_recv hK hP (ci := 1) (q0 := 3) rfl rfl)) rfl rfl hl.1 rfl (lv_room (Nat.le_of_ble_eq_true rfl)) dX6_keep_41 ⟨(Nat.le_of_ble_eq_true rfl), (Nat.le_of_ble_eq_true rfl)⟩) hS (fun q _ h => hFc q h) hFc (fun u t H1 locs ht hvm hw hB hz1 hk1 hS => ?_)
    obtain ⟨hP1, hK1, hD1⟩ := hB
    rw [ht] at hP1
    have hK1 := va_K.moved hvm.symm hK1
    obtain ⟨hP, hD⟩ := va_join (wr := [(h0, .inr (6, [.ref tp, .int 0, .ref nw, .ref dr, .ref rd, .ref sc, .ref sk, .ref fl, .ref ps, .int 0, .int 0, .ref sh])), (sh, .inl (kG, 2, .inr (.inr (.inr (.inr f6)))))]) (w1 := [(q3, .inr (1, [.ref q4, .ref q5, .int 0, .int 0, .int 0])), (nw, .inr (1, [.ref nm, .ref nb, .int 0, .int 0, .int 0]))]) hP hD [3, 1] [0, 2] rfl rfl (by decide) (by decide) hk1 hFc hP1 hD1
    generalize H1 = H at hP hS ⊢
    have hP : va_P (dC, dI) vwCl [(h0, .inr (6, [.ref tp, .int 0, .ref nw, .ref dr, .ref rd, .ref sc, .ref sk, .ref fl, .ref ps, .int 0, .int 0, .ref sh])), (sh, .inl (kG, 2, .inr (.inr (.inr (.inr f6))))), (q3, .inr (1, [.ref q4, .ref q5, .int 0, .int 0, .int 0])), (nw, .inr (1, [.ref nm, .ref nb, .int 0, .int 0, .int 0]))] H := hP
    have hD : va_D A [(h0, .inr (6, [.ref tp, .int 0, .ref nw, .ref dr, .ref rd, .ref sc, .ref sk, .ref fl, .ref ps, .int 0, .int 0, .ref sh])), (sh, .inl (kG, 2, .inr (.inr (.inr (.inr f6))))), (q3, .inr (1, [.ref q4, .ref q5, .int 0, .int 0, .int 0])), (nw, .inr (1, [.ref nm, .ref nb, .int 0, .int 0, .int 0]))] := hD
    refine lv_aload_n hx hb dX6_keep_44 rfl (lv_at hl 1 rfl) ?_
    refine va_get (D := (dC, dI)) (ci := 6) (v := .ref nw) (C := RX6) (T := TX6) (N := 12) hx hb hts inX6 hown hK hP 0 rfl rfl 2 (by decide) (hts _ pq351) (fun _ h9 => h9) rfl dX6_keep_45 ?_
    refine va_get (D := (dC, dI)) (ci := 1) (v := .int 0) (C := RX1) (T := TX1) (N := 5) hx hb hts inX1 hown hK hP 3 rfl rfl 3 (by decide) (hts _ pq226) (fun _ h9 => h9) rfl dX6_keep_48 ?_
    exact W.iret (v := 0) hx hb hr (fun t ht hW => ⟨⟨0, (), rfl, (rng_f hr1 c2), trivial⟩, hS.F ht⟩) hS.2.2 dX6_keep_51
  · refine lv_iconst (v := (-1)) hx hb dX6_keep_8 (by decide +kernel) ?_
    refine W.widen (k := 29) (n := 807) (Nat.le_of_ble_eq_true rfl) (Nat.le_of_ble_eq_true rfl) ?_
    exact W.iret (v := (-1)) hx hb hr (fun t ht hW => ⟨⟨(-1), (), rfl, (rng_t hr1 c2), trivial⟩, hS.F ht⟩) hS.2.2 dX6_keep_9

set_option maxHeartbeats 4000000 in
set_option maxRecDepth 100000 in
theorem c_X6_remember (l : Launch) (dC : Nat → ClassId) (dI : Nat → Nat → Nat) (h0 tp nw dr rd sc sk fl ps sh nm nb : Nat) (kF : ClassId) (sz : Nat) : Met l yX6_remember (.code yX6_remember cX6_remember 3 none :: pw) ({ frames := 3, cells := 29, slots := 807, locals := 53 }) (pc (dC, dI) [.ref h0] sz [(h0, .inr (6, [.ref tp, .int 0, .ref nw, .ref dr, .ref rd, .ref sc, .ref sk, .ref fl, .ref ps, .int 0, .int 0, .ref sh])), (nw, .inr (1, [.ref nm, .ref nb, .int 0, .int 0, .int 0])), (ps, .inl (kF, 10, .inr (.inr (.inr (.inr (fun _ => none))))))] [(kF, .object RX1)]) (va_Qv (fun (_ : Unit) => True) (fun _ t => wB (dC, dI) [(h0, .inr (6, [.ref tp, .int 0, .ref nw, .ref dr, .ref rd, .ref sc, .ref sk, .ref fl, .ref ps, .int 0, .int 1, .ref sh])), (nw, .inr (1, [.ref nm, .ref nb, .int 0, .int 0, .int 0]))] [] (va_A [(h0, .inr (6, [.ref tp, .int 0, .ref nw, .ref dr, .ref rd, .ref sc, .ref sk, .ref fl, .ref ps, .int 0, .int 0, .ref sh])), (nw, .inr (1, [.ref nm, .ref nb, .int 0, .int 0, .int 0])), (ps, .inl (kF, 10, .inr (.inr (.inr (.inr (fun _ => none))))))] sz) t) (va_A [(h0, .inr (6, [.ref tp, .int 0, .ref nw, .ref dr, .ref rd, .ref sc, .ref sk, .ref fl, .ref ps, .int 0, .int 0, .ref sh])), (nw, .inr (1, [.ref nm, .ref nb, .int 0, .int 0, .int 0])), (ps, .inl (kF, 10, .inr (.inr (.inr (.inr (fun _ => none))))))] sz)) 29 807 (va_A [(h0, .inr (6, [.ref tp, .int 0, .ref nw, .ref dr, .ref rd, .ref sc, .ref sk, .ref fl, .ref ps, .int 0, .int 0, .ref sh])), (nw, .inr (1, [.ref nm, .ref nb, .int 0, .int 0, .int 0])), (ps, .inl (kF, 10, .inr (.inr (.inr (.inr (fun _ => none))))))] sz) := by
  refine Met.ofW (cc := cX6_remember) (maxL := 3) (ret := none) (by decide +kernel) rfl ?_
  intro p e s m args below meth c s₁ B hml hv
  obtain ⟨rfl, hsz, hP, hK, hD0, hN⟩ := hv
  have hx := B.exec
  have hb := B.bytes
  have hr := B.returns
  have hts := fun w (h : w ∈ pw) => atoms_spec (ws := Cond.code yX6_remember cX6_remember 3 none :: pw) B.pre w (List.mem_cons_of_mem _ h)
  have hown : s.vm.findClass RX6 = some m.cls := findClass_of_methodNamed B.named
  have hlocks := B.notSynchronized
  subst hsz
  have hD := hD0.self (sz := s.heap.size)
  generalize hAe : va_A [(h0, .inr (6, [.ref tp, .int 0, .ref nw, .ref dr, .ref rd, .ref sc, .ref sk, .ref fl, .ref ps, .int 0, .int 0, .ref sh])), (nw, .inr (1, [.ref nm, .ref nb, .int 0, .int 0, .int 0])), (ps, .inl (kF, 10, .inr (.inr (.inr (.inr (fun _ => none))))))] s.heap.size = A at hD ⊢
  have hA : ∀ q : Nat, s.heap.size ≤ q → A q := fun q h => by rw [← hAe]; exact Or.inr h
  obtain ⟨H, hHe⟩ : ∃ H : Heap, H = s.heap := ⟨_, rfl⟩
  have hS : va_S A s.heap H [] := by rw [hHe]; exact va_S.rf
  rw [← hHe] at hP
  have hl := lv_entry ([.ref h0]) (n := 3) (Nat.le_of_ble_eq_true rfl)
  rw [lg_entry_eq]
  generalize (lg_sl ([.ref h0]) ++ List.replicate (3 - (lg_sl ([.ref h0])).length) Slot.unset).toArray = ls at hl ⊢
  have hl : lv_has ls 3 [(0, .ref h0)] := hl
  rw [← hHe]
  refine lv_aload_n hx hb dX6_remember_0 rfl (lv_at hl 0 rfl) ?_
  refine va_get (D := (dC, dI)) (ci := 6) (v := .int 0) (C := RX6) (T := TX6) (N := 12) hx hb hts inX6 hown hK hP 0 rfl rfl 10 (by decide) (hts _ pq359) (fun _ h9 => h9) rfl dX6_remember_1 ?_
  refine lv_bipush (v := 10) hx hb dX6_remember_4 (by decide +kernel) ?_
  refine lv_icmp_ne (tgt := 32) hx hb dX6_remember_6 (by decide) (fun c1 => ?_) (fun c1 => absurd c1 (by decide +kernel))
  refine lv_aload_n hx hb dX6_remember_32 rfl (lv_at hl 0 rfl) ?_
  refine va_get (D := (dC, dI)) (ci := 6) (v := .int 0) (C := RX6) (T := TX6) (N := 12) hx hb hts inX6 hown hK hP 0 rfl rfl 9 (by decide) (hts _ pq358) (fun _ h9 => h9) rfl dX6_remember_33 ?_
  refine lv_aload_n hx hb dX6_remember_36 rfl (lv_at hl 0 rfl) ?_
  refine va_get (D := (dC, dI)) (ci := 6) (v := .int 0) (C := RX6) (T := TX6) (N := 12) hx hb hts inX6 hown hK hP 0 rfl rfl 10 (by decide) (hts _ pq359) (fun _ h9 => h9) rfl dX6_remember_37 ?_
  refine lv_iadd hx hb dX6_remember_40 ?_
  refine lv_topi (fun z2 ez2 => ?_)
  obtain rfl : z2 = 0 := ez2.trans (by decide +kernel)
  refine lv_bipush (v := 10) hx hb dX6_remember_41 (by decide +kernel) ?_
  refine lv_irem hx hb dX6_remember_43 (by decide +kernel) ?_
  refine lv_topi (fun z3 ez3 => ?_)
  obtain rfl : z3 = 0 := ez3.trans (by decide +kernel)
  refine lv_istore_n (lv' := [(1, .int 0), (0, .ref h0)]) hx hb dX6_remember_44 rfl hl (by decide) rfl (fun ls hl => ?_)
  refine lv_aload_n hx hb dX6_remember_45 rfl (lv_at hl 1 rfl) ?_
  refine va_get (D := (dC, dI)) (ci := 6) (v := .ref ps) (C := RX6) (T := TX6) (N := 12) hx hb hts inX6 hown hK hP 0 rfl rfl 8 (by decide) (hts _ pq357) (fun _ h9 => h9) rfl dX6_remember_46 ?_
  refine lv_iload_n hx hb dX6_remember_49 rfl (lv_at hl 0 rfl) ?_
  refine va_aldq hx hb hK hP 2 0 rfl rfl (in_d (by decide +kernel)) dX6_remember_50 ?_
  refine W.eq (g2 := F0 m 51 ls [.null]) rfl ?_
  refine lv_astore_nN (lv' := [(2, .null), (1, .int 0), (0, .ref h0)]) hx hb dX6_remember_51 rfl hl (by decide) rfl (fun ls hl => ?_)
  refine lv_aload_nN hx hb dX6_remember_52 rfl (lv_at hl 0 rfl) ?_
  refine lv_ifnonnullN hx hb dX6_remember_53 ?_
  refine va_new (ci := 1) (fs := [.null, .null, .int 0, .int 0, .int 0]) (C := RX1) (T := TX1) (N := 5) hx hb hts inX1 tyX1 tyX1_ok hown (hts _ pq101) (hts _ pq102) (hts _ pq75) hK hP hD hS hA rfl dfX1 (Nat.le_of_ble_eq_true rfl) (Nat.le_of_ble_eq_true rfl) dX6_remember_56 (fun q4 H hP hD hS => ?_)
  have hP : va_P (dC, dI) vwCl [(h0, .inr (6, [.ref tp, .int 0, .ref nw, .ref dr, .ref rd, .ref sc, .ref sk, .ref fl, .ref ps, .int 0, .int 0, .ref sh])), (nw, .inr (1, [.ref nm, .ref nb, .int 0, .int 0, .int 0])), (ps, .inl (kF, 10, .inr (.inr (.inr (.inr (fun _ => none)))))), (q4, .inr (1, [.null, .null, .int 0, .int 0, .int 0]))] H := hP
  have hD : va_D A [(h0, .inr (6, [.ref tp, .int 0, .ref nw, .ref dr, .ref rd, .ref sc, .ref sk, .ref fl, .ref ps, .int 0, .int 0, .ref sh])), (nw, .inr (1, [.ref nm, .ref nb, .int 0, .int 0, .int 0])), (ps, .inl (kF, 10, .inr (.inr (.inr (.inr (fun _ => none)))))), (q4, .inr (1, [.null, .null, .int 0, .int 0, .int 0]))] := hD
  refine W.widen (k := 1) (n := 5) (Nat.le_of_ble_eq_true rfl) (Nat.le_of_ble_eq_true rfl) ?_
  refine lv_dup hx hb dX6_remember_59 rfl ?_
  have hPc := hP.sub (ws' := [(q4, .inr (1, [.null, .null, .int 0, .int 0, .int 0]))]) [3] rfl
  have hDc := hD.sub (ws' := [(q4, .inr (1, [.null, .null, .int 0, .int 0, .int 0]))]) [3] (by decide) rfl
  have hKc := hK.sub (tys' := []) [] rfl
  have hFc := va_free (wc := [(q4, .inr (1, [.null, .null, .int 0, .int 0, .int 0]))]) hD hS hA [3] rfl
  refine va_callv (va_runI (As := []) (rest := [.ref q4]) ⟨hx, hb, hml, hown, hts⟩ (c_X1_init l dC dI q4 H.size  ) (cwI 0 hts (gI pq105) rfl rfl rfl (hts _ pq75) (hts _ pq103) (hts _ pq104) rfl (by decide +kernel) ⟨(Nat.le_of_ble_eq_true rfl), (Nat.le_of_ble_eq_true rfl)⟩) (pc_S hPc hDc hKc hN) rfl rfl hl.1 rfl (lv_room (Nat.le_of_ble_eq_true rfl)) dX6_remember_60 ⟨(Nat.le_of_ble_eq_true rfl), (Nat.le_of_ble_eq_true rfl)⟩) hS (fun q _ h => hFc q h) hFc (fun u t H1 locs ht hvm hw hB hz1 hk1 hS => ?_)
  obtain ⟨q5, q6, hP1, hK1, hD1⟩ := hB
  rw [ht] at hP1
  have hK1 := va_K.moved hvm.symm hK1
  obtain ⟨hP, hD⟩ := va_join (wr := [(h0, .inr (6, [.ref tp, .int 0, .ref nw, .ref dr, .ref rd, .ref sc, .ref sk, .ref fl, .ref ps, .int 0, .int 0, .ref sh])), (nw, .inr (1, [.ref nm, .ref nb, .int 0, .int 0, .int 0])), (ps, .inl (kF, 10, .inr (.inr (.inr (.inr (fun _ => none))))))]) (w1 := [(q4, .inr (1, [.ref q5, .ref q6, .int 0, .int 0, .int 0]))]) hP hD [3] [0, 1, 2] rfl rfl (by decide) (by decide) hk1 hFc hP1 hD1
  generalize H1 = H at hP hS ⊢
  have hP : va_P (dC, dI) vwCl [(h0, .inr (6, [.ref tp, .int 0, .ref nw, .ref dr, .ref rd, .ref sc, .ref sk, .ref fl, .ref ps, .int 0, .int 0, .ref sh])), (nw, .inr (1, [.ref nm, .ref nb, .int 0, .int 0, .int 0])), (ps, .inl (kF, 10, .inr (.inr (.inr (.inr (fun _ => none)))))), (q4, .inr (1, [.ref q5, .ref q6, .int 0, .int 0, .int 0]))] H := hP
  have hD : va_D A [(h0, .inr (6, [.ref tp, .int 0, .ref nw, .ref dr, .ref rd, .ref sc, .ref sk, .ref fl, .ref ps, .int 0, .int 0, .ref sh])), (nw, .inr (1, [.ref nm, .ref nb, .int 0, .int 0, .int 0])), (ps, .inl (kF, 10, .inr (.inr (.inr (.inr (fun _ => none)))))), (q4, .inr (1, [.ref q5, .ref q6, .int 0, .int 0, .int 0]))] := hD
  refine W.widen (k := 29) (n := 807) (Nat.le_of_ble_eq_true rfl) (Nat.le_of_ble_eq_true rfl) ?_
  refine lv_astore_n (lv' := [(2, .ref q4), (1, .int 0), (0, .ref h0)]) hx hb dX6_remember_63 rfl hl (by decide) rfl (fun ls hl => ?_)
  refine lv_aload_n hx hb dX6_remember_64 rfl (lv_at hl 2 rfl) ?_
  refine va_get (D := (dC, dI)) (ci := 6) (v := .ref ps) (C := RX6) (T := TX6) (N := 12) hx hb hts inX6 hown hK hP 0 rfl rfl 8 (by decide) (hts _ pq357) (fun _ h9 => h9) rfl dX6_remember_65 ?_
  refine lv_iload_n hx hb dX6_remember_68 rfl (lv_at hl 1 rfl) ?_
  refine lv_aload_n hx hb dX6_remember_69 rfl (lv_at hl 0 rfl) ?_
  refine va_astq hx hb hK hP hD hS 2 0 3 1 rfl rfl rfl rfl (in_d (by decide +kernel)) dX6_remember_70 (fun H locs hP hD hS => ?_)
  obtain ⟨f7, hP, hD⟩ : ∃ f7 : Nat → Option Nat, va_P (dC, dI) vwCl [(h0, .inr (6, [.ref tp, .int 0, .ref nw, .ref dr, .ref rd, .ref sc, .ref sk, .ref fl, .ref ps, .int 0, .int 0, .ref sh])), (nw, .inr (1, [.ref nm, .ref nb, .int 0, .int 0, .int 0])), (ps, .inl (kF, 10, .inr (.inr (.inr (.inr f7))))), (q4, .inr (1, [.ref q5, .ref q6, .int 0, .int 0, .int 0]))] H ∧ va_D A [(h0, .inr (6, [.ref tp, .int 0, .ref nw, .ref dr, .ref rd, .ref sc, .ref sk, .ref fl, .ref ps, .int 0, .int 0, .ref sh])), (nw, .inr (1, [.ref nm, .ref nb, .int 0, .int 0, .int 0])), (ps, .inl (kF, 10, .inr (.inr (.inr (.inr f7))))), (q4, .inr (1, [.ref q5, .ref q6, .int 0, .int 0, .int 0]))] := ⟨_, hP, hD⟩
  refine lv_aload_n hx hb dX6_remember_71 rfl (lv_at hl 0 rfl) ?_
  refine lv_aload_n hx hb dX6_remember_72 rfl (lv_at hl 2 rfl) ?_
  refine va_get (D := (dC, dI)) (ci := 6) (v := .ref nw) (C := RX6) (T := TX6) (N := 12) hx hb hts inX6 hown hK hP 0 rfl rfl 2 (by decide) (hts _ pq351) (fun _ h9 => h9) rfl dX6_remember_73 ?_
  have hPc := hP.sub (ws' := [(q4, .inr (1, [.ref q5, .ref q6, .int 0, .int 0, .int 0])), (nw, .inr (1, [.ref nm, .ref nb, .int 0, .int 0, .int 0]))]) [3, 1] rfl
  have hDc := hD.sub (ws' := [(q4, .inr (1, [.ref q5, .ref q6, .int 0, .int 0, .int 0])), (nw, .inr (1, [.ref nm, .ref nb, .int 0, .int 0, .int 0]))]) [3, 1] (by decide) rfl
  have hKc := hK.sub (tys' := []) [] rfl
  have hFc := va_free (wc := [(q4, .inr (1, [.ref q5, .ref q6, .int 0, .int 0, .int 0])), (nw, .inr (1, [.ref nm, .ref nb, .int 0, .int 0, .int 0]))]) hD hS hA [3, 1] rfl
  refine va_callv (va_runV (As := [.ref nw]) (rest := []) ⟨hx, hb, hml, hown, hts⟩ (c_X1_become l dC dI q4 q5 q6 nw nm nb H.size  ) (cwV 1 hts (gV pq589 pq590 pq591 pq75 pq592) rfl rfl rfl (by decide +kernel) ⟨(Nat.le_of_ble_eq_true rfl), (Nat.le_of_ble_eq_true rfl)⟩) (pc_V hPc hDc hKc hN (va_recv hK hP (ci := 1) (q0 := 3) rfl rfl)) rfl rfl hl.1 rfl (lv_room (Nat.le_of_ble_eq_true rfl)) dX6_remember_76 ⟨(Nat.le_of_ble_eq_true rfl), (Nat.le_of_ble_eq_true rfl)⟩) hS (fun q _ h => hFc q h) hFc (fun u t H1 locs ht hvm hw hB hz1 hk1 hS => ?_)
  obtain ⟨hP1, hK1, hD1⟩ := hB
  rw [ht] at hP1
  have hK1 := va_K.moved hvm.symm hK1
  obtain ⟨hP, hD⟩ := va_join (wr := [(h0, .inr (6, [.ref tp, .int 0, .ref nw, .ref dr, .ref rd, .ref sc, .ref sk, .ref fl, .ref ps, .int 0, .int 0, .ref sh])), (ps, .inl (kF, 10, .inr (.inr (.inr (.inr f7)))))]) (w1 := [(q4, .inr (1, [.ref q5, .ref q6, .int 0, .int 0, .int 0])), (nw, .inr (1, [.ref nm, .ref nb, .int 0, .int 0, .int 0]))]) hP hD [3, 1] [0, 2] rfl rfl (by decide) (by decide) hk1 hFc hP1 hD1
  generalize H1 = H at hP hS ⊢
  have hP : va_P (dC, dI) vwCl [(h0, .inr (6, [.ref tp, .int 0, .ref nw, .ref dr, .ref rd, .ref sc, .ref sk, .ref fl, .ref ps, .int 0, .int 0, .ref sh])), (ps, .inl (kF, 10, .inr (.inr (.inr (.inr f7))))), (q4, .inr (1, [.ref q5, .ref q6, .int 0, .int 0, .int 0])), (nw, .inr (1, [.ref nm, .ref nb, .int 0, .int 0, .int 0]))] H := hP
  have hD : va_D A [(h0, .inr (6, [.ref tp, .int 0, .ref nw, .ref dr, .ref rd, .ref sc, .ref sk, .ref fl, .ref ps, .int 0, .int 0, .ref sh])), (ps, .inl (kF, 10, .inr (.inr (.inr (.inr f7))))), (q4, .inr (1, [.ref q5, .ref q6, .int 0, .int 0, .int 0])), (nw, .inr (1, [.ref nm, .ref nb, .int 0, .int 0, .int 0]))] := hD
  refine lv_aload_n hx hb dX6_remember_79 rfl (lv_at hl 2 rfl) ?_
  refine lv_dup hx hb dX6_remember_80 rfl ?_
  refine va_get (D := (dC, dI)) (ci := 6) (v := .int 0) (C := RX6) (T := TX6) (N := 12) hx hb hts inX6 hown hK hP 0 rfl rfl 10 (by decide) (hts _ pq359) (fun _ h9 => h9) rfl dX6_remember_81 ?_
  refine lv_iconst (v := 1) hx hb dX6_remember_84 (by decide +kernel) ?_
  refine lv_iadd hx hb dX6_remember_85 ?_
  refine lv_topi (fun z8 ez8 => ?_)
  obtain rfl : z8 = 1 := ez8.trans (by decide +kernel)
  refine va_put (D := (dC, dI)) (ci := 6) (v := .int 1) (ty := tyX6 10) (C := RX6) (T := TX6) (N := 12) hx hb hts inX6 tyX6 tyX6_ok nmX6 hown hK hP hD hS 0 rfl rfl 10 (by decide) (hts _ pq359) (fun _ h9 => h9) rfl (by decide +kernel) rfl rfl (Nat.le_of_ble_eq_true rfl) dX6_remember_86 (fun H locs hP hD hS => ?_)
  have hP : va_P (dC, dI) vwCl [(h0, .inr (6, [.ref tp, .int 0, .ref nw, .ref dr, .ref rd, .ref sc, .ref sk, .ref fl, .ref ps, .int 0, .int 1, .ref sh])), (ps, .inl (kF, 10, .inr (.inr (.inr (.inr f7))))), (q4, .inr (1, [.ref q5, .ref q6, .int 0, .int 0, .int 0])), (nw, .inr (1, [.ref nm, .ref nb, .int 0, .int 0, .int 0]))] H := hP
  have hD : va_D A [(h0, .inr (6, [.ref tp, .int 0, .ref nw, .ref dr, .ref rd, .ref sc, .ref sk, .ref fl, .ref ps, .int 0, .int 1, .ref sh])), (ps, .inl (kF, 10, .inr (.inr (.inr (.inr f7))))), (q4, .inr (1, [.ref q5, .ref q6, .int 0, .int 0, .int 0])), (nw, .inr (1, [.ref nm, .ref nb, .int 0, .int 0, .int 0]))] := hD
  have hP9 := hP.sub (ws' := [(h0, .inr (6, [.ref tp, .int 0, .ref nw, .ref dr, .ref rd, .ref sc, .ref sk, .ref fl, .ref ps, .int 0, .int 1, .ref sh])), (nw, .inr (1, [.ref nm, .ref nb, .int 0, .int 0, .int 0]))]) [0, 3] rfl
  have hD9 := hD.sub (ws' := [(h0, .inr (6, [.ref tp, .int 0, .ref nw, .ref dr, .ref rd, .ref sc, .ref sk, .ref fl, .ref ps, .int 0, .int 1, .ref sh])), (nw, .inr (1, [.ref nm, .ref nb, .int 0, .int 0, .int 0]))]) [0, 3] (by decide) rfl
  have hK9 := hK.sub (tys' := []) [] rfl
  exact W.vret hx hb hr (fun t ht hW => ⟨⟨(), rfl, trivial, ⟨by rw [ht]; exact hP9, va_K.moved hW.alike hK9, hD9⟩⟩, hS.F ht⟩) hS.2.2 dX6_remember_89
end
section
abbrev cX6_ticks : ByteArray := prog_1_method_22_code
def yX6_ticks : MethodName := ⟨RX6, "ticks", "(I)I"⟩
theorem dX6_ticks_0 : decode cX6_ticks 0 = .ok (.iload_n 1, 1) := by decide +kernel
theorem dX6_ticks_1 : decode cX6_ticks 1 = .ok (.iconst 1, 1) := by decide +kernel
theorem dX6_ticks_2 : decode cX6_ticks 2 = .ok (.if_icmp .lt 9, 3) := by decide +kernel
theorem dX6_ticks_5 : decode cX6_ticks 5 = .ok (.iload_n 1, 1) := by decide +kernel
theorem dX6_ticks_6 : decode cX6_ticks 6 = .ok (.bipush 20, 2) := by decide +kernel
theorem dX6_ticks_8 : decode cX6_ticks 8 = .ok (.if_icmp .le 5, 3) := by decide +kernel
theorem dX6_ticks_11 : decode cX6_ticks 11 = .ok (.iconst (-1), 1) := by decide +kernel
theorem dX6_ticks_12 : decode cX6_ticks 12 = .ok (.ireturn, 1) := by decide +kernel
theorem dX6_ticks_13 : decode cX6_ticks 13 = .ok (.aload_n 0, 1) := by decide +kernel
theorem dX6_ticks_14 : decode cX6_ticks 14 = .ok (.invokevirtual 106, 3) := by decide +kernel
theorem dX6_ticks_17 : decode cX6_ticks 17 = .ok (.iconst 0, 1) := by decide +kernel
theorem dX6_ticks_18 : decode cX6_ticks 18 = .ok (.istore_n 2, 1) := by decide +kernel
theorem dX6_ticks_19 : decode cX6_ticks 19 = .ok (.iconst 0, 1) := by decide +kernel
theorem dX6_ticks_20 : decode cX6_ticks 20 = .ok (.istore_n 3, 1) := by decide +kernel
theorem dX6_ticks_21 : decode cX6_ticks 21 = .ok (.iload_n 3, 1) := by decide +kernel
theorem dX6_ticks_22 : decode cX6_ticks 22 = .ok (.iload_n 1, 1) := by decide +kernel
theorem dX6_ticks_23 : decode cX6_ticks 23 = .ok (.if_icmp .ge 42, 3) := by decide +kernel
theorem dX6_ticks_26 : decode cX6_ticks 26 = .ok (.iconst 0, 1) := by decide +kernel
theorem dX6_ticks_27 : decode cX6_ticks 27 = .ok (.istore 4, 2) := by decide +kernel
theorem dX6_ticks_29 : decode cX6_ticks 29 = .ok (.iload 4, 2) := by decide +kernel
theorem dX6_ticks_31 : decode cX6_ticks 31 = .ok (.aload_n 0, 1) := by decide +kernel
theorem dX6_ticks_32 : decode cX6_ticks 32 = .ok (.getfield 20, 3) := by decide +kernel
theorem dX6_ticks_35 : decode cX6_ticks 35 = .ok (.getfield 83, 3) := by decide +kernel
theorem dX6_ticks_38 : decode cX6_ticks 38 = .ok (.if_icmp .ge 21, 3) := by decide +kernel
theorem dX6_ticks_59 : decode cX6_ticks 59 = .ok (.iinc 3 1, 3) := by decide +kernel
theorem dX6_ticks_62 : decode cX6_ticks 62 = .ok (.goto (-41), 3) := by decide +kernel
theorem dX6_ticks_65 : decode cX6_ticks 65 = .ok (.aload_n 0, 1) := by decide +kernel
theorem dX6_ticks_66 : decode cX6_ticks 66 = .ok (.getfield 20, 3) := by decide +kernel
theorem dX6_ticks_69 : decode cX6_ticks 69 = .ok (.dup, 1) := by decide +kernel
theorem dX6_ticks_70 : decode cX6_ticks 70 = .ok (.getfield 235, 3) := by decide +kernel
theorem dX6_ticks_73 : decode cX6_ticks 73 = .ok (.iload_n 1, 1) := by decide +kernel
theorem dX6_ticks_74 : decode cX6_ticks 74 = .ok (.iadd, 1) := by decide +kernel
theorem dX6_ticks_75 : decode cX6_ticks 75 = .ok (.putfield 235, 3) := by decide +kernel
theorem dX6_ticks_78 : decode cX6_ticks 78 = .ok (.iload_n 2, 1) := by decide +kernel
theorem dX6_ticks_79 : decode cX6_ticks 79 = .ok (.ireturn, 1) := by decide +kernel
set_option maxRecDepth 100000 in
theorem pq3 : Cond.selects RX6 yX6_remember yX6_remember ∈ pw := pw_mem (i := 3) (by decide +kernel) rfl
set_option maxRecDepth 100000 in
theorem pq643 : Cond.methodLink RX6 106 yX6_remember ∈ pw := pw_mem (i := 643) (by decide +kernel) rfl
set_option maxRecDepth 100000 in
theorem pq645 : Cond.instanceMethod yX6_remember ∈ pw := pw_mem (i := 645) (by decide +kernel) rfl
set_option maxRecDepth 100000 in
theorem pq646 : Cond.code yX6_remember cX6_remember 3 none ∈ pw := pw_mem (i := 646) (by rfl) rfl
theorem nI_leb {j n : Nat} (hj : j < 2 ^ 31) (c : ¬ nI n < nI j) : j ≤ n := Nat.not_lt.mp (fun h => c (nI_lt h hj))

set_option maxHeartbeats 4000000 in
set_option maxRecDepth 100000 in
theorem c_X6_ticks (l : Launch) (dC : Nat → ClassId) (dI : Nat → Nat → Nat) (h0 tp nw dr rd sc sk fl ps sh nm nb : Nat) (kF : ClassId) (sz : Nat) (p0 : Int32) : Met l yX6_ticks (.code yX6_ticks cX6_ticks 5 (some .int) :: pw) ({ frames := 4, cells := 29, slots := 807, locals := 75 }) (pc (dC, dI) [.ref h0, .int p0] sz [(h0, .inr (6, [.ref tp, .int 0, .ref nw, .ref dr, .ref rd, .ref sc, .ref sk, .ref fl, .ref ps, .int 0, .int 0, .ref sh])), (nw, .inr (1, [.ref nm, .ref nb, .int 0, .int 0, .int 0])), (ps, .inl (kF, 10, .inr (.inr (.inr (.inr (fun _ => none))))))] [(kF, .object RX1)]) (va_Qi (fun (r : Int32) (_ : Unit) => r = if p0 < 1 ∨ 20 < p0 then (-1) else 0) (fun _ _ => True) (va_A [(h0, .inr (6, [.ref tp, .int 0, .ref nw, .ref dr, .ref rd, .ref sc, .ref sk, .ref fl, .ref ps, .int 0, .int 0, .ref sh])), (nw, .inr (1, [.ref nm, .ref nb, .int 0, .int 0, .int 0])), (ps, .inl (kF, 10, .inr (.inr (.inr (.inr (fun _ => none))))))] sz)) 29 807 (va_A [(h0, .inr (6, [.ref tp, .int 0, .ref nw, .ref dr, .ref rd, .ref sc, .ref sk, .ref fl, .ref ps, .int 0, .int 0, .ref sh])), (nw, .inr (1, [.ref nm, .ref nb, .int 0, .int 0, .int 0])), (ps, .inl (kF, 10, .inr (.inr (.inr (.inr (fun _ => none))))))] sz) := by
  refine Met.ofW (cc := cX6_ticks) (maxL := 5) (ret := (some .int)) (by decide +kernel) rfl ?_
  intro p e s m args below meth c s₁ B hml hv
  obtain ⟨rfl, hsz, hP, hK, hD0, hN⟩ := hv
  have hx := B.exec
  have hb := B.bytes
  have hr := B.returns
  have hts := fun w (h : w ∈ pw) => atoms_spec (ws := Cond.code yX6_ticks cX6_ticks 5 (some .int) :: pw) B.pre w (List.mem_cons_of_mem _ h)
  have hown : s.vm.findClass RX6 = some m.cls := findClass_of_methodNamed B.named
  have hlocks := B.notSynchronized
  subst hsz
  have hD := hD0.self (sz := s.heap.size)
  generalize hAe : va_A [(h0, .inr (6, [.ref tp, .int 0, .ref nw, .ref dr, .ref rd, .ref sc, .ref sk, .ref fl, .ref ps, .int 0, .int 0, .ref sh])), (nw, .inr (1, [.ref nm, .ref nb, .int 0, .int 0, .int 0])), (ps, .inl (kF, 10, .inr (.inr (.inr (.inr (fun _ => none))))))] s.heap.size = A at hD ⊢
  have hA : ∀ q : Nat, s.heap.size ≤ q → A q := fun q h => by rw [← hAe]; exact Or.inr h
  obtain ⟨H, hHe⟩ : ∃ H : Heap, H = s.heap := ⟨_, rfl⟩
  have hS : va_S A s.heap H [] := by rw [hHe]; exact va_S.rf
  rw [← hHe] at hP
  have hl := lv_entry ([.ref h0, .int p0]) (n := 5) (Nat.le_of_ble_eq_true rfl)
  rw [lg_entry_eq]
  generalize (lg_sl ([.ref h0, .int p0]) ++ List.replicate (5 - (lg_sl ([.ref h0, .int p0])).length) Slot.unset).toArray = ls at hl ⊢
  have hl : lv_has ls 5 [(0, .ref h0), (1, .int p0)] := hl
  rw [← hHe]
  refine lv_iload_n hx hb dX6_ticks_0 rfl (lv_at hl 1 rfl) ?_
  refine lv_iconst (v := 1) hx hb dX6_ticks_1 (by decide +kernel) ?_
  refine lv_icmp_lt (tgt := 11) hx hb dX6_ticks_2 (by decide) (fun c1 => ?_) (fun c1 => ?_)
  · refine lv_iconst (v := (-1)) hx hb dX6_ticks_11 (by decide +kernel) ?_
    refine W.widen (k := 29) (n := 807) (Nat.le_of_ble_eq_true rfl) (Nat.le_of_ble_eq_true rfl) ?_
    exact W.iret (v := (-1)) hx hb hr (fun t ht hW => ⟨⟨(-1), (), rfl, (if_pos (Or.inl c1)).symm, trivial⟩, hS.F ht⟩) hS.2.2 dX6_ticks_12
  · refine lv_iload_n hx hb dX6_ticks_5 rfl (lv_at hl 1 rfl) ?_
    refine lv_bipush (v := 20) hx hb dX6_ticks_6 (by decide +kernel) ?_
    refine lv_icmp_le (tgt := 13) hx hb dX6_ticks_8 (by decide) (fun c2 => ?_) (fun c2 => ?_)
    · obtain ⟨N, hN20, rfl⟩ := nI_of2 (M := 20) (n := 20) (by decide +kernel) (fun h => c1 (Int32.lt_trans h (by decide +kernel))) c2
      refine lv_aload_n hx hb dX6_ticks_13 rfl (lv_at hl 0 rfl) ?_
      have hPc := hP.sub (ws' := [(h0, .inr (6, [.ref tp, .int 0, .ref nw, .ref dr, .ref rd, .ref sc, .ref sk, .ref fl, .ref ps, .int 0, .int 0, .ref sh])), (nw, .inr (1, [.ref nm, .ref nb, .int 0, .int 0, .int 0])), (ps, .inl (kF, 10, .inr (.inr (.inr (.inr (fun _ => none))))))]) [0, 1, 2] rfl
      have hDc := hD.sub (ws' := [(h0, .inr (6, [.ref tp, .int 0, .ref nw, .ref dr, .ref rd, .ref sc, .ref sk, .ref fl, .ref ps, .int 0, .int 0, .ref sh])), (nw, .inr (1, [.ref nm, .ref nb, .int 0, .int 0, .int 0])), (ps, .inl (kF, 10, .inr (.inr (.inr (.inr (fun _ => none))))))]) [0, 1, 2] (by decide) rfl
      have hKc := hK.sub (tys' := [(kF, .object RX1)]) [0] rfl
      have hFc := va_free (wc := [(h0, .inr (6, [.ref tp, .int 0, .ref nw, .ref dr, .ref rd, .ref sc, .ref sk, .ref fl, .ref ps, .int 0, .int 0, .ref sh])), (nw, .inr (1, [.ref nm, .ref nb, .int 0, .int 0, .int 0])), (ps, .inl (kF, 10, .inr (.inr (.inr (.inr (fun _ => none))))))]) hD hS hA [0, 1, 2] rfl
      refine va_callv (va_runV (As := []) (rest := []) ⟨hx, hb, hml, hown, hts⟩ (c_X6_remember l dC dI h0 tp nw dr rd sc sk fl ps sh nm nb kF H.size  ) (cwV 0 hts (gV pq643 pq645 pq3 pq74 pq646) rfl rfl rfl (by decide +kernel) ⟨(Nat.le_of_ble_eq_true rfl), (Nat.le_of_ble_eq_true rfl)⟩) (pc_V hPc hDc hKc hN (va_recv hK hP (ci := 6) (q0 := 0) rfl rfl)) rfl rfl hl.1 rfl (lv_room (Nat.le_of_ble_eq_true rfl)) dX6_ticks_14 ⟨(Nat.le_of_ble_eq_true rfl), (Nat.le_of_ble_eq_true rfl)⟩) hS (fun q _ h => hFc q h) hFc (fun u t H1 locs ht hvm hw hB hz1 hk1 hS => ?_)
      obtain ⟨hP1, hK1, hD1⟩ := hB
      rw [ht] at hP1
      have hK1 := va_K.moved hvm.symm hK1
      obtain ⟨hP, hD⟩ := va_join (wr := []) (w1 := [(h0, .inr (6, [.ref tp, .int 0, .ref nw, .ref dr, .ref rd, .ref sc, .ref sk, .ref fl, .ref ps, .int 0, .int 1, .ref sh])), (nw, .inr (1, [.ref nm, .ref nb, .int 0, .int 0, .int 0]))]) hP hD [0, 1, 2] [] rfl rfl (by decide) (by decide) hk1 hFc hP1 hD1
      generalize H1 = H at hP hS ⊢
      have hP : va_P (dC, dI) vwCl [(h0, .inr (6, [.ref tp, .int 0, .ref nw, .ref dr, .ref rd, .ref sc, .ref sk, .ref fl, .ref ps, .int 0, .int 1, .ref sh])), (nw, .inr (1, [.ref nm, .ref nb, .int 0, .int 0, .int 0]))] H := hP
      have hD : va_D A [(h0, .inr (6, [.ref tp, .int 0, .ref nw, .ref dr, .ref rd, .ref sc, .ref sk, .ref fl, .ref ps, .int 0, .int 1, .ref sh])), (nw, .inr (1, [.ref nm, .ref nb, .int 0, .int 0, .int 0]))] := hD
      refine W.widen (k := 29) (n := 807) (Nat.le_of_ble_eq_true rfl) (Nat.le_of_ble_eq_true rfl) ?_
      refine lv_iconst (v := 0) hx hb dX6_ticks_17 (by decide +kernel) ?_
      refine lv_istore_n (lv' := [(2, .int 0), (0, .ref h0), (1, .int (nI N))]) hx hb dX6_ticks_18 rfl hl (by decide) rfl (fun ls hl => ?_)
      refine lv_iconst (v := 0) hx hb dX6_ticks_19 (by decide +kernel) ?_
      refine lv_istore_n (lv' := [(3, .int 0), (2, .int 0), (0, .ref h0), (1, .int (nI N))]) hx hb dX6_ticks_20 rfl hl (by decide) rfl (fun ls hl => ?_)
      refine namedW (fun R Q hR hQ => ?_)
      refine loopW (α := Nat) (I := fun j ls H lo => j ≤ N ∧ va_P (dC, dI) vwCl [(h0, .inr (6, [.ref tp, .int 0, .ref nw, .ref dr, .ref rd, .ref sc, .ref sk, .ref fl, .ref ps, .int 0, .int 1, .ref sh])), (nw, .inr (1, [.ref nm, .ref nb, .int 0, .int 0, .int 0]))] H ∧ va_D A [(h0, .inr (6, [.ref tp, .int 0, .ref nw, .ref dr, .ref rd, .ref sc, .ref sk, .ref fl, .ref ps, .int 0, .int 1, .ref sh])), (nw, .inr (1, [.ref nm, .ref nb, .int 0, .int 0, .int 0]))] ∧ va_S A s.heap H lo ∧ lv_has ls 5 [(3, .int (nI j)), (2, .int 0), (0, .ref h0), (1, .int (nI N))]) (G := fun j ls H lo => W p l e R s m (([.ref h0, .int (nI N)] : List Value).toArray) below meth c H lo 29 807 Q (F0 m 21 ls [])) (mu := fun j => N - j) ?_ 0 ls H _ ⟨Nat.zero_le _, hP, hD, hS, hl⟩
      intro j ls H locs hI ihj
      subst hR; subst hQ
      obtain ⟨hjj, hP, hD, hS, hl⟩ := hI
      have hl : lv_has ls 5 [(3, .int (nI j)), (2, .int 0), (0, .ref h0), (1, .int (nI N))] := hl
      refine lv_iload_n hx hb dX6_ticks_21 rfl (lv_at hl 0 rfl) ?_
      refine lv_iload_n hx hb dX6_ticks_22 rfl (lv_at hl 3 rfl) ?_
      refine lv_icmp_ge (tgt := 65) hx hb dX6_ticks_23 (by decide) (fun c3 => ?_) (fun c3 => ?_)
      · refine lv_aload_n hx hb dX6_ticks_65 rfl (lv_at hl 2 rfl) ?_
        refine va_get (D := (dC, dI)) (ci := 6) (v := .ref nw) (C := RX6) (T := TX6) (N := 12) hx hb hts inX6 hown hK hP 0 rfl rfl 2 (by decide) (hts _ pq351) (fun _ h9 => h9) rfl dX6_ticks_66 ?_
        refine lv_dup hx hb dX6_ticks_69 rfl ?_
        refine va_get (D := (dC, dI)) (ci := 1) (v := .int 0) (C := RX1) (T := TX1) (N := 5) hx hb hts inX1 hown hK hP 1 rfl rfl 4 (by decide) (hts _ pq229) (fun _ h9 => h9) rfl dX6_ticks_70 ?_
        refine lv_iload_n hx hb dX6_ticks_73 rfl (lv_at hl 3 rfl) ?_
        refine lv_iadd hx hb dX6_ticks_74 ?_
        refine lv_topi (fun z4 ez4 => ?_)
        refine va_put (D := (dC, dI)) (ci := 1) (v := .int z4) (ty := tyX1 4) (C := RX1) (T := TX1) (N := 5) hx hb hts inX1 tyX1 tyX1_ok nmX1 hown hK hP hD hS 1 rfl rfl 4 (by decide) (hts _ pq229) (fun _ h9 => h9) rfl (by decide +kernel) rfl rfl (Nat.le_of_ble_eq_true rfl) dX6_ticks_75 (fun H locs hP hD hS => ?_)
        have hP : va_P (dC, dI) vwCl [(h0, .inr (6, [.ref tp, .int 0, .ref nw, .ref dr, .ref rd, .ref sc, .ref sk, .ref fl, .ref ps, .int 0, .int 1, .ref sh])), (nw, .inr (1, [.ref nm, .ref nb, .int 0, .int 0, .int z4]))] H := hP
        have hD : va_D A [(h0, .inr (6, [.ref tp, .int 0, .ref nw, .ref dr, .ref rd, .ref sc, .ref sk, .ref fl, .ref ps, .int 0, .int 1, .ref sh])), (nw, .inr (1, [.ref nm, .ref nb, .int 0, .int 0, .int z4]))] := hD
        refine lv_iload_n hx hb dX6_ticks_78 rfl (lv_at hl 1 rfl) ?_
        exact W.iret (v := 0) hx hb hr (fun t ht hW => ⟨⟨0, (), rfl, (if_neg (fun h => h.elim c1 (Int32.not_lt.mpr c2))).symm, trivial⟩, hS.F ht⟩) hS.2.2 dX6_ticks_79
      · refine lv_iconst (v := 0) hx hb dX6_ticks_26 (by decide +kernel) ?_
        refine lv_istore (lv' := [(4, .int 0), (3, .int (nI j)), (2, .int 0), (0, .ref h0), (1, .int (nI N))]) hx hb dX6_ticks_27 hl (by decide) rfl (fun ls hl => ?_)
        refine lv_iload hx hb dX6_ticks_29 (lv_at hl 0 rfl) ?_
        refine lv_aload_n hx hb dX6_ticks_31 rfl (lv_at hl 3 rfl) ?_
        refine va_get (D := (dC, dI)) (ci := 6) (v := .ref nw) (C := RX6) (T := TX6) (N := 12) hx hb hts inX6 hown hK hP 0 rfl rfl 2 (by decide) (hts _ pq351) (fun _ h9 => h9) rfl dX6_ticks_32 ?_
        refine va_get (D := (dC, dI)) (ci := 1) (v := .int 0) (C := RX1) (T := TX1) (N := 5) hx hb hts inX1 hown hK hP 1 rfl rfl 3 (by decide) (hts _ pq226) (fun _ h9 => h9) rfl dX6_ticks_35 ?_
        refine lv_icmp_ge (tgt := 59) hx hb dX6_ticks_38 (by decide) (fun c5 => ?_) (fun c5 => absurd (by decide +kernel) c5)
        obtain ⟨z6, ez6⟩ : ∃ y : Int32, y = nI j + 1 := ⟨_, rfl⟩
        refine lv_iinc (v := z6) (lv' := [(3, .int z6), (4, .int 0), (2, .int 0), (0, .ref h0), (1, .int (nI N))]) hx hb dX6_ticks_59 hl (k := 1) rfl (by rw [ez6]; rfl) (by decide) rfl (fun ls hl => ?_)
        refine lv_goto (tgt := 21) hx hb dX6_ticks_62 (by decide) ?_
        have hlt : j < N := nI_ltb (n := N) (by omega) c3
        obtain rfl : z6 = nI (j + 1) := ez6.trans (nI_1 j)
        exact ihj (j + 1) _ _ _ ⟨by omega, hP, hD, hS, lv_sub hl [0, 2, 3, 4] rfl⟩ (by omega)
    · refine lv_iconst (v := (-1)) hx hb dX6_ticks_11 (by decide +kernel) ?_
      refine W.widen (k := 29) (n := 807) (Nat.le_of_ble_eq_true rfl) (Nat.le_of_ble_eq_true rfl) ?_
      exact W.iret (v := (-1)) hx hb hr (fun t ht hW => ⟨⟨(-1), (), rfl, (if_pos (Or.inr (Int32.not_le.mp c2))).symm, trivial⟩, hS.F ht⟩) hS.2.2 dX6_ticks_12
end
