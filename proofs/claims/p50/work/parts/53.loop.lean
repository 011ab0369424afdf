theorem dL_law_18 : decode cL_law 18 = .ok (.iload_n 3, 1) := by decide +kernel
theorem dL_law_19 : decode cL_law 19 = .ok (.aload_n 0, 1) := by decide +kernel
theorem dL_law_20 : decode cL_law 20 = .ok (.arraylength, 1) := by decide +kernel
theorem dL_law_21 : decode cL_law 21 = .ok (.bipush 6, 2) := by decide +kernel
theorem dL_law_23 : decode cL_law 23 = .ok (.isub, 1) := by decide +kernel
theorem dL_law_24 : decode cL_law 24 = .ok (.if_icmp .gt 1929, 3) := by decide +kernel
theorem dL_law_27 : decode cL_law 27 = .ok (.aload_n 0, 1) := by decide +kernel
theorem dL_law_28 : decode cL_law 28 = .ok (.iload_n 3, 1) := by decide +kernel
theorem dL_law_29 : decode cL_law 29 = .ok (.iaload, 1) := by decide +kernel
theorem dL_law_30 : decode cL_law 30 = .ok (.bipush 63, 2) := by decide +kernel
theorem dL_law_32 : decode cL_law 32 = .ok (.iand, 1) := by decide +kernel
theorem dL_law_33 : decode cL_law 33 = .ok (.tableswitch 1914 0 48 #[211, 274, 297, 310, 353, 386, 429, 472, 515, 538, 561, 624, 667, 710, 723, 746, 769, 792, 805, 828, 851, 884, 927, 970, 1003, 1036, 1079, 1102, 1125, 1148, 1181, 1224, 1277, 1320, 1363, 1406, 1449, 1502, 1535, 1578, 1611, 1634, 1667, 1720, 1779, 1812, 1835, 1848, 1891], 211) := by decide +kernel
theorem dL_law_1947 : decode cL_law 1947 = .ok (.iinc 3 6, 3) := by decide +kernel
theorem dL_law_1950 : decode cL_law 1950 = .ok (.goto (-1932), 3) := by decide +kernel
theorem dL_law_1953 : decode cL_law 1953 = .ok (.iconst 1, 1) := by decide +kernel
theorem dL_law_1954 : decode cL_law 1954 = .ok (.ireturn, 1) := by decide +kernel
set_option maxHeartbeats 4000000 in
set_option maxRecDepth 100000 in
theorem s_lwhead {p : Program} {e : Env} {s : State} {m : MethodId} {below : List Frame} {meth : Method} {c : Code} (l : Launch) {b Ln : Nat} {xs : Nat → Int32} {dC : Nat → ClassId} {dI : Nat → Nat → Nat} {cs : Nat → ClassId} {x0 m0 : Nat} (C0 : lw_At p s m meth c b Ln xs) (hLn : Ln ≤ 3072) (hK : va_K (dC, dI) vwCl (tysA cs) s) (hXs : xS (fun q : Nat => s.heap.size ≤ q) s s.heap) {i : Int32} {n : Nat} (hi : i.toInt = 6 * (n : Int)) (hn : n ≤ 512) {d0 : Drawn} {H : Heap} {lo : List Loc} {ls : Array Slot} {nc ns : Nat} (h : lwI dC dI cs x0 m0 b s i n d0 H lo ls nc ns) (kk : i.toInt + 6 ≤ (Ln : Int) → W p l e room_1 (s.setDrawn d0) m #[Value.ref b] below meth c H lo nc ns (lw_Z below #[Value.ref b] s) (F0 m 27 ls [])) : W p l e room_1 (s.setDrawn d0) m #[Value.ref b] below meth c H lo nc ns (lw_Z below #[Value.ref b] s) (F0 m 18 ls []) := by
  obtain ⟨hx, hb, hr, hml, hown, htl, hX, hbl, hlocks, hgv⟩ := id C0
  have hb : c.code = cL_law := hb
  have hown : s.vm.findClass RL = some m.cls := hown
  have hts0 : ∀ w ∈ pw, w.before #[Value.ref b] s = true := fun w h => htl w (pw_tbl h)
  have hts := dr_words hts0 d0
  have hN : xN s := xN_of htl
  have hA : ∀ q : Nat, s.heap.size ≤ q → (fun q : Nat => s.heap.size ≤ q) q := fun _ h => h
  have hbA : ¬ (fun q : Nat => s.heap.size ≤ q) b := Nat.not_le.mpr hbl
  have h0 := h
  obtain ⟨L, K, G, Q, I, J, tx, tm, B, σ, hQ, hI, hx0, hm0, hB, hT, hC, hM, hD, hAL, hP, hS, hl, hd0, hnc, hns⟩ := h
  refine lv_iload_n hx hb dL_law_18 rfl (lv_at hl 0 rfl) ?_
  refine lv_aload_n hx hb dL_law_19 rfl (lv_at hl 3 rfl) ?_
  refine va_slen (s := s.setDrawn d0) hx hb hX hbl hbA hS dL_law_20 ?_
  refine lv_bipush (v := 6) hx hb dL_law_21 (by decide +kernel) ?_
  refine lv_isub hx hb dL_law_23 ?_
  have e1 : (Int32.ofNat Ln).toInt = (Ln : Int) := str_len rfl (by omega)
  have e2 : (Int32.ofNat Ln - 6).toInt = (Ln : Int) - 6 := tq_sub rfl e1 (by decide +kernel) (by omega) (by omega)
  refine lv_icmp_gt (tgt := 1953) hx hb dL_law_24 (by decide) (fun c => ?_) (fun c => ?_)
  · refine lv_iconst (v := 1) hx hb dL_law_1953 (by decide +kernel) ?_
    refine va_forget (fun q hq => hS.2.2 q hq) ?_
    refine W.widen (k := 600000) (n := 7302249) (by omega) (by omega) ?_
    exact lw_ret hd0 hx hb hr hlocks dL_law_1954
  · have t := tq_nlt c e2 rfl
    exact kk (by omega)

set_option maxHeartbeats 4000000 in
set_option maxRecDepth 100000 in
theorem s_lwsw {p : Program} {e : Env} {s : State} {m : MethodId} {below : List Frame} {meth : Method} {c : Code} (l : Launch) {b Ln : Nat} {xs : Nat → Int32} {dC : Nat → ClassId} {dI : Nat → Nat → Nat} {cs : Nat → ClassId} {x0 m0 : Nat} (C0 : lw_At p s m meth c b Ln xs) (hLn : Ln ≤ 3072) (hK : va_K (dC, dI) vwCl (tysA cs) s) (hXs : xS (fun q : Nat => s.heap.size ≤ q) s s.heap) (i : Int32) (n : Nat) (hn : n < 512) (hi : i.toInt = 6 * (n : Int)) (hiL : i.toInt + 5 < (Ln : Int)) {d0 : Drawn} {H : Heap} {lo : List Loc} {ls : Array Slot} {nc ns : Nat} (h : lwI dC dI cs x0 m0 b s i n d0 H lo ls nc ns) (kk : ∀ (d0 : Drawn) (H : Heap) (lo : List Loc) (ls : Array Slot) (nc ns : Nat), lwI dC dI cs x0 m0 b s i (n + 1) d0 H lo ls nc ns → W p l e room_1 (s.setDrawn d0) m #[Value.ref b] below meth c H lo nc ns (lw_Z below #[Value.ref b] s) (F0 m 1947 ls [])) : W p l e room_1 (s.setDrawn d0) m #[Value.ref b] below meth c H lo nc ns (lw_Z below #[Value.ref b] s) (F0 m 27 ls []) := by
  obtain ⟨hx, hb, hr, hml, hown, htl, hX, hbl, hlocks, hgv⟩ := id C0
  have hb : c.code = cL_law := hb
  have hown : s.vm.findClass RL = some m.cls := hown
  have hts0 : ∀ w ∈ pw, w.before #[Value.ref b] s = true := fun w h => htl w (pw_tbl h)
  have hts := dr_words hts0 d0
  have hN : xN s := xN_of htl
  have hA : ∀ q : Nat, s.heap.size ≤ q → (fun q : Nat => s.heap.size ≤ q) q := fun _ h => h
  have hbA : ¬ (fun q : Nat => s.heap.size ≤ q) b := Nat.not_le.mpr hbl
  have h0 := h
  obtain ⟨L, K, G, Q, I, J, tx, tm, B, σ, hQ, hI, hx0, hm0, hB, hT, hC, hM, hD, hAL, hP, hS, hl, hd0, hnc, hns⟩ := h
  refine lv_aload_n hx hb dL_law_27 rfl (lv_at hl 3 rfl) ?_
  refine lv_iload_n hx hb dL_law_28 rfl (lv_at hl 0 rfl) ?_
  refine va_sld (s := s.setDrawn d0) hx hb hX hbl hbA hS (in_of (by omega) (by omega)) dL_law_29 ?_
  refine lv_bipush (v := 63) hx hb dL_law_30 (by decide +kernel) ?_
  refine lv_iand hx hb dL_law_32 ?_
  refine lv_topi (fun z ez => ?_)
  rcases sw49 z with rfl | rfl | rfl | rfl | rfl | rfl | rfl | rfl | rfl | rfl | rfl | rfl | rfl | rfl | rfl | rfl | rfl | rfl | rfl | rfl | rfl | rfl | rfl | rfl | rfl | rfl | rfl | rfl | rfl | rfl | rfl | rfl | rfl | rfl | rfl | rfl | rfl | rfl | rfl | rfl | rfl | rfl | rfl | rfl | rfl | rfl | rfl | rfl | rfl | hsw
  · exact lv_tableIn (off := 211) (tgt := 244) hx hb dL_law_33 (by decide +kernel) (by decide +kernel) (by decide +kernel) (by decide) (s_lwcase0 l C0 hLn hK hXs i n hn hi hiL h0 kk)
  · exact lv_tableIn (off := 274) (tgt := 307) hx hb dL_law_33 (by decide +kernel) (by decide +kernel) (by decide +kernel) (by decide) (s_lwcase1 l C0 hLn hK hXs i n hn hi hiL h0 kk)
  · exact lv_tableIn (off := 297) (tgt := 330) hx hb dL_law_33 (by decide +kernel) (by decide +kernel) (by decide +kernel) (by decide) (s_lwcase2 l C0 hLn hK hXs i n hn hi hiL h0 kk)
  · exact lv_tableIn (off := 310) (tgt := 343) hx hb dL_law_33 (by decide +kernel) (by decide +kernel) (by decide +kernel) (by decide) (s_lwcase3 l C0 hLn hK hXs i n hn hi hiL h0 kk)
  · exact lv_tableIn (off := 353) (tgt := 386) hx hb dL_law_33 (by decide +kernel) (by decide +kernel) (by decide +kernel) (by decide) (s_lwcase4 l C0 hLn hK hXs i n hn hi hiL h0 kk)
  · exact lv_tableIn (off := 386) (tgt := 419) hx hb dL_law_33 (by decide +kernel) (by decide +kernel) (by decide +kernel) (by decide) (s_lwcase5 l C0 hLn hK hXs i n hn hi hiL h0 kk)
  · exact lv_tableIn (off := 429) (tgt := 462) hx hb dL_law_33 (by decide +kernel) (by decide +kernel) (by decide +kernel) (by decide) (s_lwcase6 l C0 hLn hK hXs i n hn hi hiL h0 kk)
  · exact lv_tableIn (off := 472) (tgt := 505) hx hb dL_law_33 (by decide +kernel) (by decide +kernel) (by decide +kernel) (by decide) (s_lwcase7 l C0 hLn hK hXs i n hn hi hiL h0 kk)
  · exact lv_tableIn (off := 515) (tgt := 548) hx hb dL_law_33 (by decide +kernel) (by decide +kernel) (by decide +kernel) (by decide) (s_lwcase8 l C0 hLn hK hXs i n hn hi hiL h0 kk)
  · exact lv_tableIn (off := 538) (tgt := 571) hx hb dL_law_33 (by decide +kernel) (by decide +kernel) (by decide +kernel) (by decide) (s_lwcase9 l C0 hLn hK hXs i n hn hi hiL h0 kk)
  · exact lv_tableIn (off := 561) (tgt := 594) hx hb dL_law_33 (by decide +kernel) (by decide +kernel) (by decide +kernel) (by decide) (s_lwcase10 l C0 hLn hK hXs i n hn hi hiL h0 kk)
  · exact lv_tableIn (off := 624) (tgt := 657) hx hb dL_law_33 (by decide +kernel) (by decide +kernel) (by decide +kernel) (by decide) (s_lwcase11 l C0 hLn hK hXs i n hn hi hiL h0 kk)
  · exact lv_tableIn (off := 667) (tgt := 700) hx hb dL_law_33 (by decide +kernel) (by decide +kernel) (by decide +kernel) (by decide) (s_lwcase12 l C0 hLn hK hXs i n hn hi hiL h0 kk)
  · exact lv_tableIn (off := 710) (tgt := 743) hx hb dL_law_33 (by decide +kernel) (by decide +kernel) (by decide +kernel) (by decide) (s_lwcase13 l C0 hLn hK hXs i n hn hi hiL h0 kk)
  · exact lv_tableIn (off := 723) (tgt := 756) hx hb dL_law_33 (by decide +kernel) (by decide +kernel) (by decide +kernel) (by decide) (s_lwcase14 l C0 hLn hK hXs i n hn hi hiL h0 kk)
  · exact lv_tableIn (off := 746) (tgt := 779) hx hb dL_law_33 (by decide +kernel) (by decide +kernel) (by decide +kernel) (by decide) (s_lwcase15 l C0 hLn hK hXs i n hn hi hiL h0 kk)
  · exact lv_tableIn (off := 769) (tgt := 802) hx hb dL_law_33 (by decide +kernel) (by decide +kernel) (by decide +kernel) (by decide) (s_lwcase16 l C0 hLn hK hXs i n hn hi hiL h0 kk)
  · exact lv_tableIn (off := 792) (tgt := 825) hx hb dL_law_33 (by decide +kernel) (by decide +kernel) (by decide +kernel) (by decide) (s_lwcase17 l C0 hLn hK hXs i n hn hi hiL h0 kk)
  · exact lv_tableIn (off := 805) (tgt := 838) hx hb dL_law_33 (by decide +kernel) (by decide +kernel) (by decide +kernel) (by decide) (s_lwcase18 l C0 hLn hK hXs i n hn hi hiL h0 kk)
  · exact lv_tableIn (off := 828) (tgt := 861) hx hb dL_law_33 (by decide +kernel) (by decide +kernel) (by decide +kernel) (by decide) (s_lwcase19 l C0 hLn hK hXs i n hn hi hiL h0 kk)
  · exact lv_tableIn (off := 851) (tgt := 884) hx hb dL_law_33 (by decide +kernel) (by decide +kernel) (by decide +kernel) (by decide) (s_lwcase20 l C0 hLn hK hXs i n hn hi hiL h0 kk)
  · exact lv_tableIn (off := 884) (tgt := 917) hx hb dL_law_33 (by decide +kernel) (by decide +kernel) (by decide +kernel) (by decide) (s_lwcase21 l C0 hLn hK hXs i n hn hi hiL h0 kk)
  · exact lv_tableIn (off := 927) (tgt := 960) hx hb dL_law_33 (by decide +kernel) (by decide +kernel) (by decide +kernel) (by decide) (s_lwcase22 l C0 hLn hK hXs i n hn hi hiL h0 kk)
  · exact lv_tableIn (off := 970) (tgt := 1003) hx hb dL_law_33 (by decide +kernel) (by decide +kernel) (by decide +kernel) (by decide) (s_lwcase23 l C0 hLn hK hXs i n hn hi hiL h0 kk)
  · exact lv_tableIn (off := 1003) (tgt := 1036) hx hb dL_law_33 (by decide +kernel) (by decide +kernel) (by decide +kernel) (by decide) (s_lwcase24 l C0 hLn hK hXs i n hn hi hiL h0 kk)
  · exact lv_tableIn (off := 1036) (tgt := 1069) hx hb dL_law_33 (by decide +kernel) (by decide +kernel) (by decide +kernel) (by decide) (s_lwcase25 l C0 hLn hK hXs i n hn hi hiL h0 kk)
  · exact lv_tableIn (off := 1079) (tgt := 1112) hx hb dL_law_33 (by decide +kernel) (by decide +kernel) (by decide +kernel) (by decide) (s_lwcase26 l C0 hLn hK hXs i n hn hi hiL h0 kk)
  · exact lv_tableIn (off := 1102) (tgt := 1135) hx hb dL_law_33 (by decide +kernel) (by decide +kernel) (by decide +kernel) (by decide) (s_lwcase27 l C0 hLn hK hXs i n hn hi hiL h0 kk)
  · exact lv_tableIn (off := 1125) (tgt := 1158) hx hb dL_law_33 (by decide +kernel) (by decide +kernel) (by decide +kernel) (by decide) (s_lwcase28 l C0 hLn hK hXs i n hn hi hiL h0 kk)
  · exact lv_tableIn (off := 1148) (tgt := 1181) hx hb dL_law_33 (by decide +kernel) (by decide +kernel) (by decide +kernel) (by decide) (s_lwcase29 l C0 hLn hK hXs i n hn hi hiL h0 kk)
  · exact lv_tableIn (off := 1181) (tgt := 1214) hx hb dL_law_33 (by decide +kernel) (by decide +kernel) (by decide +kernel) (by decide) (s_lwcase30 l C0 hLn hK hXs i n hn hi hiL h0 kk)
  · exact lv_tableIn (off := 1224) (tgt := 1257) hx hb dL_law_33 (by decide +kernel) (by decide +kernel) (by decide +kernel) (by decide) (s_lwcase31 l C0 hLn hK hXs i n hn hi hiL h0 kk)
  · exact lv_tableIn (off := 1277) (tgt := 1310) hx hb dL_law_33 (by decide +kernel) (by decide +kernel) (by decide +kernel) (by decide) (s_lwcase32 l C0 hLn hK hXs i n hn hi hiL h0 kk)
  · exact lv_tableIn (off := 1320) (tgt := 1353) hx hb dL_law_33 (by decide +kernel) (by decide +kernel) (by decide +kernel) (by decide) (s_lwcase33 l C0 hLn hK hXs i n hn hi hiL h0 kk)
  · exact lv_tableIn (off := 1363) (tgt := 1396) hx hb dL_law_33 (by decide +kernel) (by decide +kernel) (by decide +kernel) (by decide) (s_lwcase34 l C0 hLn hK hXs i n hn hi hiL h0 kk)
  · exact lv_tableIn (off := 1406) (tgt := 1439) hx hb dL_law_33 (by decide +kernel) (by decide +kernel) (by decide +kernel) (by decide) (s_lwcase35 l C0 hLn hK hXs i n hn hi hiL h0 kk)
  · exact lv_tableIn (off := 1449) (tgt := 1482) hx hb dL_law_33 (by decide +kernel) (by decide +kernel) (by decide +kernel) (by decide) (s_lwcase36 l C0 hLn hK hXs i n hn hi hiL h0 kk)
  · exact lv_tableIn (off := 1502) (tgt := 1535) hx hb dL_law_33 (by decide +kernel) (by decide +kernel) (by decide +kernel) (by decide) (s_lwcase37 l C0 hLn hK hXs i n hn hi hiL h0 kk)
  · exact lv_tableIn (off := 1535) (tgt := 1568) hx hb dL_law_33 (by decide +kernel) (by decide +kernel) (by decide +kernel) (by decide) (s_lwcase38 l C0 hLn hK hXs i n hn hi hiL h0 kk)
  · exact lv_tableIn (off := 1578) (tgt := 1611) hx hb dL_law_33 (by decide +kernel) (by decide +kernel) (by decide +kernel) (by decide) (s_lwcase39 l C0 hLn hK hXs i n hn hi hiL h0 kk)
  · exact lv_tableIn (off := 1611) (tgt := 1644) hx hb dL_law_33 (by decide +kernel) (by decide +kernel) (by decide +kernel) (by decide) (s_lwcase40 l C0 hLn hK hXs i n hn hi hiL h0 kk)
  · exact lv_tableIn (off := 1634) (tgt := 1667) hx hb dL_law_33 (by decide +kernel) (by decide +kernel) (by decide +kernel) (by decide) (s_lwcase41 l C0 hLn hK hXs i n hn hi hiL h0 kk)
  · exact lv_tableIn (off := 1667) (tgt := 1700) hx hb dL_law_33 (by decide +kernel) (by decide +kernel) (by decide +kernel) (by decide) (s_lwcase42 l C0 hLn hK hXs i n hn hi hiL h0 kk)
  · exact lv_tableIn (off := 1720) (tgt := 1753) hx hb dL_law_33 (by decide +kernel) (by decide +kernel) (by decide +kernel) (by decide) (s_lwcase43 l C0 hLn hK hXs i n hn hi hiL h0 kk)
  · exact lv_tableIn (off := 1779) (tgt := 1812) hx hb dL_law_33 (by decide +kernel) (by decide +kernel) (by decide +kernel) (by decide) (s_lwcase44 l C0 hLn hK hXs i n hn hi hiL h0 kk)
  · exact lv_tableIn (off := 1812) (tgt := 1845) hx hb dL_law_33 (by decide +kernel) (by decide +kernel) (by decide +kernel) (by decide) (s_lwcase45 l C0 hLn hK hXs i n hn hi hiL h0 kk)
  · exact lv_tableIn (off := 1835) (tgt := 1868) hx hb dL_law_33 (by decide +kernel) (by decide +kernel) (by decide +kernel) (by decide) (s_lwcase46 l C0 hLn hK hXs i n hn hi hiL h0 kk)
  · exact lv_tableIn (off := 1848) (tgt := 1881) hx hb dL_law_33 (by decide +kernel) (by decide +kernel) (by decide +kernel) (by decide) (s_lwcase47 l C0 hLn hK hXs i n hn hi hiL h0 kk)
  · exact lv_tableIn (off := 1891) (tgt := 1924) hx hb dL_law_33 (by decide +kernel) (by decide +kernel) (by decide +kernel) (by decide) (s_lwcase48 l C0 hLn hK hXs i n hn hi hiL h0 kk)
  · exact lv_tableOut (tgt := 1947) hx hb dL_law_33 hsw (by decide) (kk _ _ _ _ _ _ (lwI_up h0))

set_option maxHeartbeats 4000000 in
set_option maxRecDepth 100000 in
theorem s_lwloop {p : Program} {e : Env} {s : State} {m : MethodId} {below : List Frame} {meth : Method} {c : Code} (l : Launch) {b Ln : Nat} {xs : Nat → Int32} {dC : Nat → ClassId} {dI : Nat → Nat → Nat} {cs : Nat → ClassId} {x0 m0 : Nat} (C0 : lw_At p s m meth c b Ln xs) (hLn : Ln ≤ 3072) (hK : va_K (dC, dI) vwCl (tysA cs) s) (hXs : xS (fun q : Nat => s.heap.size ≤ q) s s.heap) : ∀ (k : Nat) (i : Int32) (n : Nat) (d0 : Drawn) (H : Heap) (lo : List Loc) (ls : Array Slot) (nc ns : Nat), n + k = 512 → i.toInt = 6 * (n : Int) → lwI dC dI cs x0 m0 b s i n d0 H lo ls nc ns → W p l e room_1 (s.setDrawn d0) m #[Value.ref b] below meth c H lo nc ns (lw_Z below #[Value.ref b] s) (F0 m 18 ls []) := by
  intro k
  induction k with
  | zero =>
    intro i n d0 H lo ls nc ns hk hi h
    exact s_lwhead l C0 hLn hK hXs hi (by omega) h (fun w => absurd w (by omega))
  | succ k ih =>
    intro i n d0 H lo ls nc ns hk hi h
    refine s_lwhead l C0 hLn hK hXs hi (by omega) h (fun w => s_lwsw l C0 hLn hK hXs i n (by omega) hi (by omega) h (fun d0 H lo ls nc ns h => ?_))
    obtain ⟨hx, hb, hr, hml, hown, htl, hX, hbl, hlocks, hgv⟩ := id C0
    have hb : c.code = cL_law := hb
    obtain ⟨L, K, G, Q, I, J, tx, tm, B, σ, hQ, hI, hx0, hm0, hB, hT, hC, hM, hD, hAL, hP, hS, hl, hd0, hnc, hns⟩ := h
    obtain ⟨z, ez⟩ : ∃ y : Int32, y = i + 6 := ⟨_, rfl⟩
    have bz := tq_add (k := i.toInt) (q := 6) ez rfl (by decide +kernel) (by omega) (by omega)
    refine lv_iinc (v := z) (lv' := [(3, .int z), (2, .ref m0), (1, .ref x0), (0, .ref b)]) hx hb dL_law_1947 hl (k := 0) rfl (by rw [ez]; rfl) (by decide) rfl (fun ls hl => ?_)
    refine lv_goto (tgt := 18) hx hb dL_law_1950 (by decide) ?_
    exact ih z (n + 1) d0 H lo ls nc ns (by omega) (by omega) ⟨L, K, G, Q, I, J, tx, tm, B, σ, hQ, hI, hx0, hm0, hB, hT, hC, hM, hD, hAL, hP, hS, hl, hd0, hnc, hns⟩
