def yX0_init : MethodName := ⟨RX0, "<init>", "()V"⟩
def yX2_init : MethodName := ⟨RX2, "<init>", "()V"⟩
def yX3_init : MethodName := ⟨RX3, "<init>", "()V"⟩
def yX6_isWithin : MethodName := ⟨RX6, "isWithin", "(II)Z"⟩
def yX6_wayLength : MethodName := ⟨RX6, "wayLength", "(II)I"⟩
def yX6_wayPart : MethodName := ⟨RX6, "wayPart", "(III)I"⟩
theorem mem_r {big : List Cond} (ws : List Cond) (ps : List Nat) (hp : ws = ps.filterMap (fun i => big[i]?)) : ∀ w ∈ ws, w ∈ big := by
  intro w hw
  rw [hp] at hw
  obtain ⟨i, -, hi⟩ := List.mem_filterMap.mp hw
  exact List.mem_of_getElem? hi
/-- the tables' words that keep: what every contract here takes as its words -/
def pw : List Cond := lw_tbl.filter goodWord
theorem pw_mem {i : Nat} {w : Cond} (h : lw_tbl[i]? = some w) (g : goodWord w = true) : w ∈ pw := List.mem_filter.mpr ⟨List.mem_of_getElem? h, g⟩
theorem pw_tbl {w : Cond} (h : w ∈ pw) : w ∈ lw_tbl := (List.mem_filter.mp h).1
theorem pw_good {w : Cond} (h : w ∈ pw) : (w.onTables && w.keeps) = true ∨ ∃ ty, w = .arrayClass ty := good_of_word (List.mem_filter.mp h).2
theorem gI {y : MethodName} {c : ByteArray} {n : Nat} {r : Option FieldType} (h : Cond.code y c n r ∈ pw) : GoodIn pw (Cond.code y c n r :: pw) := by
  intro w hw
  rcases List.mem_cons.mp hw with rfl | hw
  · exact ⟨h, pw_good h⟩
  · exact ⟨hw, pw_good hw⟩
theorem gP {ws a : List Cond} (ha : ∀ w ∈ a, w ∈ pw) (h : GoodIn pw ws) : GoodIn pw (a ++ ws) := by
  intro w hw
  rcases List.mem_append.mp hw with hw | hw
  · exact ⟨ha w hw, pw_good (ha w hw)⟩
  · exact h w hw
theorem gV {own C : String} {idx : Nat} {y : MethodName} {c : ByteArray} {n : Nat} {r : Option FieldType} (h1 : Cond.methodLink own idx y ∈ pw) (h2 : Cond.instanceMethod y ∈ pw) (h3 : Cond.selects C y y ∈ pw) (h4 : Cond.initialized C ∈ pw) (h : Cond.code y c n r ∈ pw) : GoodIn pw (wsV own idx C y (Cond.code y c n r :: pw)) := by
  refine gP ?_ (gI h)
  intro w hw
  simp only [List.mem_cons, List.not_mem_nil, or_false] at hw
  rcases hw with rfl | rfl | rfl | rfl
  · exact h1
  · exact h2
  · exact h3
  · exact h4
theorem gS {own : String} {idx : Nat} {y : MethodName} {c : ByteArray} {n : Nat} {r : Option FieldType} (h1 : Cond.methodLink own idx y ∈ pw) (h2 : Cond.static y ∈ pw) (h3 : Cond.initialized y.cls ∈ pw) (h : Cond.code y c n r ∈ pw) : GoodIn pw (va_wsS own idx y (Cond.code y c n r :: pw)) := by
  refine gP ?_ (gI h)
  intro w hw
  simp only [List.mem_cons, List.not_mem_nil, or_false] at hw
  rcases hw with rfl | rfl | rfl
  · exact h1
  · exact h2
  · exact h3
/-- what the tables say beyond words: the private constructors of nest mates, arrays over own classes -/
def xN (U : State) : Prop := va_Nw (.methodLinkNest RX1 33 yX3_init "MaskTouch") U ∧ va_Nw (.methodLinkNest RX1 34 yX0_init "MaskTouch") U ∧ va_Nw (.methodLinkNest RX5 43 yX3_init "MaskTouch") U ∧ va_Nw (.methodLinkNest RX6 47 yX3_init "MaskTouch") U ∧ va_Nw (.methodLinkNest RX6 54 yX2_init "MaskTouch") U ∧ va_Nw (.methodLinkNest RX2 11 yX3_init "MaskTouch") U ∧ va_Nw (.methodLinkNest RX5 127 yX6_wayLength "MaskTouch") U ∧ va_Nw (.methodLinkNest RX5 134 yX6_wayPart "MaskTouch") U ∧ va_Nw (.methodLinkNest RX5 141 yX6_isWithin "MaskTouch") U ∧ va_AO RX3 U ∧ va_AO RX0 U ∧ va_AO RX1 U
theorem xN_X1_33 {U : State} (h : xN U) : va_Nw (.methodLinkNest RX1 33 yX3_init "MaskTouch") U := h.1
theorem xN_X1_34 {U : State} (h : xN U) : va_Nw (.methodLinkNest RX1 34 yX0_init "MaskTouch") U := h.2.1
theorem xN_X5_43 {U : State} (h : xN U) : va_Nw (.methodLinkNest RX5 43 yX3_init "MaskTouch") U := h.2.2.1
theorem xN_X6_47 {U : State} (h : xN U) : va_Nw (.methodLinkNest RX6 47 yX3_init "MaskTouch") U := h.2.2.2.1
theorem xN_X6_54 {U : State} (h : xN U) : va_Nw (.methodLinkNest RX6 54 yX2_init "MaskTouch") U := h.2.2.2.2.1
theorem xN_X2_11 {U : State} (h : xN U) : va_Nw (.methodLinkNest RX2 11 yX3_init "MaskTouch") U := h.2.2.2.2.2.1
theorem xN_X5_127 {U : State} (h : xN U) : va_Nw (.methodLinkNest RX5 127 yX6_wayLength "MaskTouch") U := h.2.2.2.2.2.2.1
theorem xN_X5_134 {U : State} (h : xN U) : va_Nw (.methodLinkNest RX5 134 yX6_wayPart "MaskTouch") U := h.2.2.2.2.2.2.2.1
theorem xN_X5_141 {U : State} (h : xN U) : va_Nw (.methodLinkNest RX5 141 yX6_isWithin "MaskTouch") U := h.2.2.2.2.2.2.2.2.1
theorem xN_aoX3 {U : State} (h : xN U) : va_AO RX3 U := h.2.2.2.2.2.2.2.2.2.1
theorem xN_aoX0 {U : State} (h : xN U) : va_AO RX0 U := h.2.2.2.2.2.2.2.2.2.2.1
theorem xN_aoX1 {U : State} (h : xN U) : va_AO RX1 U := h.2.2.2.2.2.2.2.2.2.2.2
theorem xN_warm {s U : State} (hW : s.WarmedH U.vm) (h : xN s) : xN U := ⟨va_Nw.warmM hW (h.1), va_Nw.warmM hW (h.2.1), va_Nw.warmM hW (h.2.2.1), va_Nw.warmM hW (h.2.2.2.1), va_Nw.warmM hW (h.2.2.2.2.1), va_Nw.warmM hW (h.2.2.2.2.2.1), va_Nw.warmM hW (h.2.2.2.2.2.2.1), va_Nw.warmM hW (h.2.2.2.2.2.2.2.1), va_Nw.warmM hW (h.2.2.2.2.2.2.2.2.1), va_AO.moved hW.alike (h.2.2.2.2.2.2.2.2.2.1), va_AO.moved hW.alike (h.2.2.2.2.2.2.2.2.2.2.1), va_AO.moved hW.alike (h.2.2.2.2.2.2.2.2.2.2.2)⟩
theorem xN_call {U : State} {g : JFrame} {mk : MethodId} {a : Array Value} (h : xN U) : xN (U.calling g mk a) := ⟨va_Nw.same (u := U) (U := U.calling g mk a) rfl rfl (h.1), va_Nw.same (u := U) (U := U.calling g mk a) rfl rfl (h.2.1), va_Nw.same (u := U) (U := U.calling g mk a) rfl rfl (h.2.2.1), va_Nw.same (u := U) (U := U.calling g mk a) rfl rfl (h.2.2.2.1), va_Nw.same (u := U) (U := U.calling g mk a) rfl rfl (h.2.2.2.2.1), va_Nw.same (u := U) (U := U.calling g mk a) rfl rfl (h.2.2.2.2.2.1), va_Nw.same (u := U) (U := U.calling g mk a) rfl rfl (h.2.2.2.2.2.2.1), va_Nw.same (u := U) (U := U.calling g mk a) rfl rfl (h.2.2.2.2.2.2.2.1), va_Nw.same (u := U) (U := U.calling g mk a) rfl rfl (h.2.2.2.2.2.2.2.2.1), va_AO.moved (u := U) (U := U.calling g mk a) (Vm.Alike.refl U.vm) (h.2.2.2.2.2.2.2.2.2.1), va_AO.moved (u := U) (U := U.calling g mk a) (Vm.Alike.refl U.vm) (h.2.2.2.2.2.2.2.2.2.2.1), va_AO.moved (u := U) (U := U.calling g mk a) (Vm.Alike.refl U.vm) (h.2.2.2.2.2.2.2.2.2.2.2)⟩
set_option maxRecDepth 100000 in
theorem xN_of {a : Array Value} {s : State} (hts : ∀ w ∈ lw_tbl, w.before a s = true) : xN s := ⟨va_Nw.of rfl (hts (.methodLinkNest RX1 33 yX3_init "MaskTouch") (List.mem_of_getElem? (i := 112) (by decide +kernel))), va_Nw.of rfl (hts (.methodLinkNest RX1 34 yX0_init "MaskTouch") (List.mem_of_getElem? (i := 165) (by decide +kernel))), va_Nw.of rfl (hts (.methodLinkNest RX5 43 yX3_init "MaskTouch") (List.mem_of_getElem? (i := 273) (by decide +kernel))), va_Nw.of rfl (hts (.methodLinkNest RX6 47 yX3_init "MaskTouch") (List.mem_of_getElem? (i := 308) (by decide +kernel))), va_Nw.of rfl (hts (.methodLinkNest RX6 54 yX2_init "MaskTouch") (List.mem_of_getElem? (i := 311) (by decide +kernel))), va_Nw.of rfl (hts (.methodLinkNest RX2 11 yX3_init "MaskTouch") (List.mem_of_getElem? (i := 316) (by decide +kernel))), va_Nw.of rfl (hts (.methodLinkNest RX5 127 yX6_wayLength "MaskTouch") (List.mem_of_getElem? (i := 743) (by decide +kernel))), va_Nw.of rfl (hts (.methodLinkNest RX5 134 yX6_wayPart "MaskTouch") (List.mem_of_getElem? (i := 778) (by decide +kernel))), va_Nw.of rfl (hts (.methodLinkNest RX5 141 yX6_isWithin "MaskTouch") (List.mem_of_getElem? (i := 788) (by decide +kernel))), va_AO.of (hts (.arrayOver (.object RX3)) (List.mem_of_getElem? (i := 108) (by decide +kernel))), va_AO.of (hts (.arrayOver (.object RX0)) (List.mem_of_getElem? (i := 110) (by decide +kernel))), va_AO.of (hts (.arrayOver (.object RX1)) (List.mem_of_getElem? (i := 348) (by decide +kernel)))⟩
/-- a method's start: its cells, the classes, the tables -/
def pc (D : va_G) (av : List Value) (sz : Nat) (ws : va_W) (tys : List (ClassId × FieldType)) : Array Value → State → Prop := va_Pc av (fun U => U.heap.size = sz ∧ va_P D vwCl ws U.heap ∧ va_K D vwCl tys U ∧ va_D (fun _ => True) ws ∧ xN U)
theorem pc_blind {D : va_G} {av : List Value} {sz : Nat} {ws : va_W} {tys : List (ClassId × FieldType)} : FrameBlind (pc D av sz ws tys) := fun a U g mk q => by
  obtain ⟨q0, q1, qP, qK, qD, qN⟩ := q
  exact ⟨q0, q1, qP, va_K.moved (u := U) (U := U.calling g mk a) (Vm.Alike.refl U.vm) qK, qD, xN_call qN⟩
theorem pc_S {s : State} {H : Heap} {D : va_G} {As : List Value} {ws : va_W} {tys : List (ClassId × FieldType)} {A : Nat → Prop} (hP : va_P D vwCl ws H) (hD : va_D A ws) (hK : va_K D vwCl tys s) (hN : xN s) : PreS s H (pc D As H.size ws tys) As :=
  ⟨pc_blind, fun U hU hW => ⟨rfl, by rw [hU], by rw [hU]; exact hP, va_K.moved hW.alike hK, hD.weaken (fun _ _ _ _ => trivial), xN_warm hW hN⟩⟩
theorem pc_V {s : State} {H : Heap} {D : va_G} {b : Addr} {C : String} {As : List Value} {ws : va_W} {tys : List (ClassId × FieldType)} {A : Nat → Prop} (hP : va_P D vwCl ws H) (hD : va_D A ws) (hK : va_K D vwCl tys s) (hN : xN s) (hr : ∃ cell : Cell, H[b]? = some cell ∧ cell.vm.isStatics = false ∧ s.vm.findClass C = some cell.cls) : PreV s H C b (pc D (.ref b :: As) H.size ws tys) As :=
  ⟨pc_blind, hr, (pc_S (As := .ref b :: As) hP hD hK hN).2⟩
/-- a world behind a method -/
def wB (D : va_G) (ws : va_W) (tys : List (ClassId × FieldType)) (A : Nat → Prop) (t : State) : Prop := va_P D vwCl ws t.heap ∧ va_K D vwCl tys t ∧ va_D A ws
theorem va_P0 {D : va_G} {cl : List vw_C} {H : Heap} : va_P D cl [] H := fun k q h => by simp at h
theorem va_D0 {A : Nat → Prop} : va_D A [] := ⟨fun i j p q h => by simp at h, fun k q h => by simp at h⟩
theorem in_d {i : Int32} {n : Nat} (h : ¬ (i < 0 ∨ n ≤ i.toNatClampNeg)) : vp_in i n := h
section RO
variable {p : Program} {l : Launch} {e : Env} {R : Room} {s : State} {m : MethodId} {args : Array Value} {below : List Frame} {meth : Method} {c : Code} {H : Heap} {locs : List Loc} {cells slots : Nat} {Q : State → Prop}
variable {pc : Nat} {ls : Array Slot} {rest st0 : List Value} {a : Array Value} {A0 : Nat → Prop} {H0 : Heap} {D : va_G} {cl : List vw_C} {ws : va_W}
/-- calls that change nothing -/
theorem ro_i {post : Int32 → Unit → Prop} (hr : va_Run p l e R s m args below meth c H locs cells slots 0 0 (F0 m pc ls st0) rest (va_Qi post (fun _ _ => True) (fun _ => False) a) (fun _ => False)) (hS : va_S A0 H0 H locs) (hP : va_P D cl ws H)
    (kk : ∀ (r : Int32) (H1 : Heap) (locs1 : List Loc), post r () → va_P D cl ws H1 → va_S A0 H0 H1 locs1 → W p l e R s m args below meth c H1 locs1 cells slots Q (F0 m (pc + 3) ls (.int r :: rest))) : W p l e R s m args below meth c H locs cells slots Q (F0 m pc ls st0) :=
  va_calli hr hS (fun q _ h => h.elim) (fun q h => h.elim) (fun r u t H1 locs1 ht hvm hw hB hz1 hk1 hS => kk r H1 locs1 hw (hP.kept (fun k q hk => hk1 q.1 ((hP k q hk).lt) (fun h => h))) hS)
theorem ro_l {post : Int64 → Unit → Prop} (hr : va_Run p l e R s m args below meth c H locs cells slots 0 0 (F0 m pc ls st0) rest (va_Ql post (fun _ _ => True) (fun _ => False) a) (fun _ => False)) (hS : va_S A0 H0 H locs) (hP : va_P D cl ws H)
    (kk : ∀ (r : Int64) (H1 : Heap) (locs1 : List Loc), post r () → va_P D cl ws H1 → va_S A0 H0 H1 locs1 → W p l e R s m args below meth c H1 locs1 cells slots Q (F0 m (pc + 3) ls (.long r :: rest))) : W p l e R s m args below meth c H locs cells slots Q (F0 m pc ls st0) :=
  va_calll hr hS (fun q _ h => h.elim) (fun q h => h.elim) (fun r u t H1 locs1 ht hvm hw hB hz1 hk1 hS => kk r H1 locs1 hw (hP.kept (fun k q hk => hk1 q.1 ((hP k q hk).lt) (fun h => h))) hS)
theorem ro_v {post : Unit → Prop} (hr : va_Run p l e R s m args below meth c H locs cells slots 0 0 (F0 m pc ls st0) rest (va_Qv post (fun _ _ => True) (fun _ => False) a) (fun _ => False)) (hS : va_S A0 H0 H locs) (hP : va_P D cl ws H)
    (kk : ∀ (H1 : Heap) (locs1 : List Loc), va_P D cl ws H1 → va_S A0 H0 H1 locs1 → W p l e R s m args below meth c H1 locs1 cells slots Q (F0 m (pc + 3) ls rest)) : W p l e R s m args below meth c H locs cells slots Q (F0 m pc ls st0) :=
  va_callv hr hS (fun q _ h => h.elim) (fun q h => h.elim) (fun u t H1 locs1 ht hvm hw hB hz1 hk1 hS => kk H1 locs1 (hP.kept (fun k q hk => hk1 q.1 ((hP k q hk).lt) (fun h => h))) hS)
end RO
set_option maxRecDepth 100000 in
theorem inX0 : ∀ w ∈ u_ws RX0 TX0 8, w ∈ pw := fun w h => List.mem_filter.mpr ⟨(mem_r (big := lw_tbl) (u_ws RX0 TX0 8) [196, 198, 200, 202, 204, 206, 208, 210] (by decide +kernel) w h), List.all_eq_true.mp (show (u_ws RX0 TX0 8).all goodWord = true by decide +kernel) w h⟩
set_option maxRecDepth 100000 in
theorem inX1 : ∀ w ∈ u_ws RX1 TX1 5, w ∈ pw := fun w h => List.mem_filter.mpr ⟨(mem_r (big := lw_tbl) (u_ws RX1 TX1 5) [230, 232, 234, 236, 238] (by decide +kernel) w h), List.all_eq_true.mp (show (u_ws RX1 TX1 5).all goodWord = true by decide +kernel) w h⟩
set_option maxRecDepth 100000 in
theorem inX2 : ∀ w ∈ u_ws RX2 TX2 8, w ∈ pw := fun w h => List.mem_filter.mpr ⟨(mem_r (big := lw_tbl) (u_ws RX2 TX2 8) [330, 332, 334, 336, 338, 340, 342, 344] (by decide +kernel) w h), List.all_eq_true.mp (show (u_ws RX2 TX2 8).all goodWord = true by decide +kernel) w h⟩
set_option maxRecDepth 100000 in
theorem inX3 : ∀ w ∈ u_ws RX3 TX3 8, w ∈ pw := fun w h => List.mem_filter.mpr ⟨(mem_r (big := lw_tbl) (u_ws RX3 TX3 8) [145, 147, 149, 151, 153, 155, 157, 159] (by decide +kernel) w h), List.all_eq_true.mp (show (u_ws RX3 TX3 8).all goodWord = true by decide +kernel) w h⟩
set_option maxRecDepth 100000 in
theorem inX4 : ∀ w ∈ u_ws RX4 TX4 6, w ∈ pw := fun w h => List.mem_filter.mpr ⟨(mem_r (big := lw_tbl) (u_ws RX4 TX4 6) [253, 255, 257, 259, 261, 263] (by decide +kernel) w h), List.all_eq_true.mp (show (u_ws RX4 TX4 6).all goodWord = true by decide +kernel) w h⟩
set_option maxRecDepth 100000 in
theorem inX5 : ∀ w ∈ u_ws RX5 TX5 9, w ∈ pw := fun w h => List.mem_filter.mpr ⟨(mem_r (big := lw_tbl) (u_ws RX5 TX5 9) [288, 290, 292, 294, 296, 298, 300, 302, 304] (by decide +kernel) w h), List.all_eq_true.mp (show (u_ws RX5 TX5 9).all goodWord = true by decide +kernel) w h⟩
set_option maxRecDepth 100000 in
theorem inX6 : ∀ w ∈ u_ws RX6 TX6 12, w ∈ pw := fun w h => List.mem_filter.mpr ⟨(mem_r (big := lw_tbl) (u_ws RX6 TX6 12) [361, 363, 365, 367, 369, 371, 373, 375, 377, 379, 381, 383] (by decide +kernel) w h), List.all_eq_true.mp (show (u_ws RX6 TX6 12).all goodWord = true by decide +kernel) w h⟩
set_option maxRecDepth 100000 in
theorem inX7 : ∀ w ∈ u_ws RX7 TX7 26, w ∈ pw := fun w h => List.mem_filter.mpr ⟨(mem_r (big := lw_tbl) (u_ws RX7 TX7 26) [1141, 1143, 1145, 1147, 1149, 1151, 1153, 1155, 1157, 1159, 1161, 1163, 1165, 1167, 1169, 1171, 1173, 1175, 1177, 1179, 1181, 1183, 1185, 1187, 1189, 1191] (by decide +kernel) w h), List.all_eq_true.mp (show (u_ws RX7 TX7 26).all goodWord = true by decide +kernel) w h⟩
