
set_option maxHeartbeats 4000000 in
set_option maxRecDepth 100000 in
theorem s_conv {p : Program} {e : Env} {s : State} {m : MethodId} {below : List Frame} {meth : Method} {c : Code} (l : Launch) {b Ln : Nat} {xs : Nat → Int32} {dC : Nat → ClassId} {dI : Nat → Nat → Nat} (C0 : lw_At p s m meth c b Ln xs) (hL : Ln ≤ 3072) {q1 q4 : Nat} {f2 f5 : Nat → Nat} {f3 f6 : Nat → ClassId} {H : Heap} {locs : List Loc} {ls : Array Slot} (hK : va_K (dC, dI) vwCl [(f3 0, .byte), (f3 1, .object RX3), (f3 2, .object RX0), (f3 3, .long), (f3 4, .long), (f3 5, .long), (f3 6, .long), (f3 7, .long), (f3 8, .long), (f3 9, .long), (f3 10, .long), (f3 11, .object RX3), (f3 12, .object RX0), (f3 13, .long), (f3 14, .long), (f3 15, .long), (f3 16, .long), (f3 17, .long), (f3 18, .long), (f3 19, .long), (f3 20, .long), (f3 21, .object RX3), (f3 22, .long), (f3 23, .long), (f3 24, .long), (f3 25, .long), (f3 26, .long), (f3 27, .long), (f3 28, .long), (f3 29, .long), (f3 30, .long), (f3 31, .long), (f3 32, .long), (f3 33, .long), (f3 34, .int), (f3 35, .object RX1), (f3 36, .object RX1), (f6 0, .int), (f6 1, .int), (f6 2, .int), (f6 3, .int), (f6 4, .int), (f6 5, .long), (f6 6, .long), (f6 7, .long), (f6 8, .long), (f6 9, .long), (f6 10, .boolean), (f6 11, .byte), (f6 12, .long), (f6 13, .long), (f6 14, .int), (f6 15, .int), (f6 16, .int), (f6 17, .int)] s) (hP : va_P (dC, dI) vwCl [(q1, .inr (6, [.ref (f2 0), .int 0, .ref (f2 1), .ref (f2 2), .ref (f2 3), .ref (f2 4), .ref (f2 5), .ref (f2 6), .ref (f2 7), .int 0, .int 0, .ref (f2 8)])), (f2 0, .inl (f3 0, 400, .inl (fun _ => 0))), (f2 1, .inr (1, [.ref (f2 9), .ref (f2 10), .int 0, .int 0, .int 0])), (f2 9, .inl (f3 1, 8, .inr (.inr (.inr (.inr (rl [f2 11, f2 12, f2 13, f2 14, f2 15, f2 16, f2 17, f2 18])))))), (f2 10, .inl (f3 2, 10, .inr (.inr (.inr (.inr (rl [f2 27, f2 28, f2 29, f2 30, f2 31, f2 32, f2 33, f2 34, f2 35, f2 36])))))), (f2 11, .inr (3, [.int 0, .int 0, .ref (f2 19), .int 0, .int 0, .int 0, .int 0, .int 0])), (f2 19, .inl (f3 3, 80, .inr (.inl (fun _ => 0)))), (f2 12, .inr (3, [.int 0, .int 0, .ref (f2 20), .int 0, .int 0, .int 0, .int 0, .int 0])), (f2 20, .inl (f3 4, 80, .inr (.inl (fun _ => 0)))), (f2 13, .inr (3, [.int 0, .int 0, .ref (f2 21), .int 0, .int 0, .int 0, .int 0, .int 0])), (f2 21, .inl (f3 5, 80, .inr (.inl (fun _ => 0)))), (f2 14, .inr (3, [.int 0, .int 0, .ref (f2 22), .int 0, .int 0, .int 0, .int 0, .int 0])), (f2 22, .inl (f3 6, 80, .inr (.inl (fun _ => 0)))), (f2 15, .inr (3, [.int 0, .int 0, .ref (f2 23), .int 0, .int 0, .int 0, .int 0, .int 0])), (f2 23, .inl (f3 7, 80, .inr (.inl (fun _ => 0)))), (f2 16, .inr (3, [.int 0, .int 0, .ref (f2 24), .int 0, .int 0, .int 0, .int 0, .int 0])), (f2 24, .inl (f3 8, 80, .inr (.inl (fun _ => 0)))), (f2 17, .inr (3, [.int 0, .int 0, .ref (f2 25), .int 0, .int 0, .int 0, .int 0, .int 0])), (f2 25, .inl (f3 9, 80, .inr (.inl (fun _ => 0)))), (f2 18, .inr (3, [.int 0, .int 0, .ref (f2 26), .int 0, .int 0, .int 0, .int 0, .int 0])), (f2 26, .inl (f3 10, 80, .inr (.inl (fun _ => 0)))), (f2 27, .inr (0, [.int 0, .int 0, .int 0, .int 0, .int 0, .int 0, .int 0, .int 0])), (f2 28, .inr (0, [.int 0, .int 0, .int 0, .int 0, .int 0, .int 0, .int 0, .int 0])), (f2 29, .inr (0, [.int 0, .int 0, .int 0, .int 0, .int 0, .int 0, .int 0, .int 0])), (f2 30, .inr (0, [.int 0, .int 0, .int 0, .int 0, .int 0, .int 0, .int 0, .int 0])), (f2 31, .inr (0, [.int 0, .int 0, .int 0, .int 0, .int 0, .int 0, .int 0, .int 0])), (f2 32, .inr (0, [.int 0, .int 0, .int 0, .int 0, .int 0, .int 0, .int 0, .int 0])), (f2 33, .inr (0, [.int 0, .int 0, .int 0, .int 0, .int 0, .int 0, .int 0, .int 0])), (f2 34, .inr (0, [.int 0, .int 0, .int 0, .int 0, .int 0, .int 0, .int 0, .int 0])), (f2 35, .inr (0, [.int 0, .int 0, .int 0, .int 0, .int 0, .int 0, .int 0, .int 0])), (f2 36, .inr (0, [.int 0, .int 0, .int 0, .int 0, .int 0, .int 0, .int 0, .int 0])), (f2 2, .inr (1, [.ref (f2 37), .ref (f2 38), .int 0, .int 0, .int 0])), (f2 37, .inl (f3 11, 8, .inr (.inr (.inr (.inr (rl [f2 39, f2 40, f2 41, f2 42, f2 43, f2 44, f2 45, f2 46])))))), (f2 38, .inl (f3 12, 10, .inr (.inr (.inr (.inr (rl [f2 55, f2 56, f2 57, f2 58, f2 59, f2 60, f2 61, f2 62, f2 63, f2 64])))))), (f2 39, .inr (3, [.int 0, .int 0, .ref (f2 47), .int 0, .int 0, .int 0, .int 0, .int 0])), (f2 47, .inl (f3 13, 80, .inr (.inl (fun _ => 0)))), (f2 40, .inr (3, [.int 0, .int 0, .ref (f2 48), .int 0, .int 0, .int 0, .int 0, .int 0])), (f2 48, .inl (f3 14, 80, .inr (.inl (fun _ => 0)))), (f2 41, .inr (3, [.int 0, .int 0, .ref (f2 49), .int 0, .int 0, .int 0, .int 0, .int 0])), (f2 49, .inl (f3 15, 80, .inr (.inl (fun _ => 0)))), (f2 42, .inr (3, [.int 0, .int 0, .ref (f2 50), .int 0, .int 0, .int 0, .int 0, .int 0])), (f2 50, .inl (f3 16, 80, .inr (.inl (fun _ => 0)))), (f2 43, .inr (3, [.int 0, .int 0, .ref (f2 51), .int 0, .int 0, .int 0, .int 0, .int 0])), (f2 51, .inl (f3 17, 80, .inr (.inl (fun _ => 0)))), (f2 44, .inr (3, [.int 0, .int 0, .ref (f2 52), .int 0, .int 0, .int 0, .int 0, .int 0])), (f2 52, .inl (f3 18, 80, .inr (.inl (fun _ => 0)))), (f2 45, .inr (3, [.int 0, .int 0, .ref (f2 53), .int 0, .int 0, .int 0, .int 0, .int 0])), (f2 53, .inl (f3 19, 80, .inr (.inl (fun _ => 0)))), (f2 46, .inr (3, [.int 0, .int 0, .ref (f2 54), .int 0, .int 0, .int 0, .int 0, .int 0])), (f2 54, .inl (f3 20, 80, .inr (.inl (fun _ => 0)))), (f2 55, .inr (0, [.int 0, .int 0, .int 0, .int 0, .int 0, .int 0, .int 0, .int 0])), (f2 56, .inr (0, [.int 0, .int 0, .int 0, .int 0, .int 0, .int 0, .int 0, .int 0])), (f2 57, .inr (0, [.int 0, .int 0, .int 0, .int 0, .int 0, .int 0, .int 0, .int 0])), (f2 58, .inr (0, [.int 0, .int 0, .int 0, .int 0, .int 0, .int 0, .int 0, .int 0])), (f2 59, .inr (0, [.int 0, .int 0, .int 0, .int 0, .int 0, .int 0, .int 0, .int 0])), (f2 60, .inr (0, [.int 0, .int 0, .int 0, .int 0, .int 0, .int 0, .int 0, .int 0])), (f2 61, .inr (0, [.int 0, .int 0, .int 0, .int 0, .int 0, .int 0, .int 0, .int 0])), (f2 62, .inr (0, [.int 0, .int 0, .int 0, .int 0, .int 0, .int 0, .int 0, .int 0])), (f2 63, .inr (0, [.int 0, .int 0, .int 0, .int 0, .int 0, .int 0, .int 0, .int 0])), (f2 64, .inr (0, [.int 0, .int 0, .int 0, .int 0, .int 0, .int 0, .int 0, .int 0])), (f2 3, .inr (4, [.ref (f2 0), .int 0, .int 0, .int 0, .int 0, .int 0])), (f2 4, .inr (5, [.ref (f2 1), .ref (f2 65), .int 0, .int (-1), .int 0, .int 0, .int 0, .int 0, .int 0])), (f2 65, .inl (f3 21, 10, .inr (.inr (.inr (.inr (rl [f2 66, f2 67, f2 68, f2 69, f2 70, f2 71, f2 72, f2 73, f2 74, f2 75])))))), (f2 66, .inr (3, [.int 0, .int 0, .ref (f2 76), .int 0, .int 0, .int 0, .int 0, .int 0])), (f2 76, .inl (f3 22, 80, .inr (.inl (fun _ => 0)))), (f2 67, .inr (3, [.int 0, .int 0, .ref (f2 77), .int 0, .int 0, .int 0, .int 0, .int 0])), (f2 77, .inl (f3 23, 80, .inr (.inl (fun _ => 0)))), (f2 68, .inr (3, [.int 0, .int 0, .ref (f2 78), .int 0, .int 0, .int 0, .int 0, .int 0])), (f2 78, .inl (f3 24, 80, .inr (.inl (fun _ => 0)))), (f2 69, .inr (3, [.int 0, .int 0, .ref (f2 79), .int 0, .int 0, .int 0, .int 0, .int 0])), (f2 79, .inl (f3 25, 80, .inr (.inl (fun _ => 0)))), (f2 70, .inr (3, [.int 0, .int 0, .ref (f2 80), .int 0, .int 0, .int 0, .int 0, .int 0])), (f2 80, .inl (f3 26, 80, .inr (.inl (fun _ => 0)))), (f2 71, .inr (3, [.int 0, .int 0, .ref (f2 81), .int 0, .int 0, .int 0, .int 0, .int 0])), (f2 81, .inl (f3 27, 80, .inr (.inl (fun _ => 0)))), (f2 72, .inr (3, [.int 0, .int 0, .ref (f2 82), .int 0, .int 0, .int 0, .int 0, .int 0])), (f2 82, .inl (f3 28, 80, .inr (.inl (fun _ => 0)))), (f2 73, .inr (3, [.int 0, .int 0, .ref (f2 83), .int 0, .int 0, .int 0, .int 0, .int 0])), (f2 83, .inl (f3 29, 80, .inr (.inl (fun _ => 0)))), (f2 74, .inr (3, [.int 0, .int 0, .ref (f2 84), .int 0, .int 0, .int 0, .int 0, .int 0])), (f2 84, .inl (f3 30, 80, .inr (.inl (fun _ => 0)))), (f2 75, .inr (3, [.int 0, .int 0, .ref (f2 85), .int 0, .int 0, .int 0, .int 0, .int 0])), (f2 85, .inl (f3 31, 80, .inr (.inl (fun _ => 0)))), (f2 5, .inr (3, [.int 0, .int 0, .ref (f2 86), .int 0, .int 0, .int 0, .int 0, .int 0])), (f2 86, .inl (f3 32, 80, .inr (.inl (fun _ => 0)))), (f2 6, .inr (2, [.ref (f2 87), .ref (f2 89), .int 0, .int 0, .int 0, .int 0, .int 0, .int 0])), (f2 87, .inr (3, [.int 0, .int 0, .ref (f2 88), .int 0, .int 0, .int 0, .int 0, .int 0])), (f2 88, .inl (f3 33, 80, .inr (.inl (fun _ => 0)))), (f2 89, .inl (f3 34, 4000, .inl (fun _ => 0))), (f2 7, .inl (f3 35, 10, .inr (.inr (.inr (.inr (fun _ => none)))))), (f2 8, .inl (f3 36, 2, .inr (.inr (.inr (.inr (fun _ => none)))))), (q4, .inr (7, [.ref (f5 0), .ref (f5 1), .ref (f5 2), .ref (f5 3), .ref (f5 4), .ref (f5 5), .ref (f5 6), .ref (f5 7), .ref (f5 8), .ref (f5 9), .ref (f5 10), .int 0, .ref (f5 11), .int 0, .int 0, .int 0, .int 0, .ref (f5 12), .int 0, .ref (f5 13), .ref (f5 14), .ref (f5 15), .ref (f5 16), .int 0, .int 0, .ref (f5 17)])), (f5 0, .inl (f6 0, 99, .inl (fun _ => 0))), (f5 1, .inl (f6 1, 99, .inl (fun _ => 0))), (f5 2, .inl (f6 2, 99, .inl (fun _ => 0))), (f5 3, .inl (f6 3, 990, .inl (fun _ => 0))), (f5 4, .inl (f6 4, 198, .inl (fun _ => 0))), (f5 5, .inl (f6 5, 640, .inr (.inl (fun _ => 0)))), (f5 6, .inl (f6 6, 640, .inr (.inl (fun _ => 0)))), (f5 7, .inl (f6 7, 640, .inr (.inl (fun _ => 0)))), (f5 8, .inl (f6 8, 6400, .inr (.inl (fun _ => 0)))), (f5 9, .inl (f6 9, 1280, .inr (.inl (fun _ => 0)))), (f5 10, .inl (f6 10, 2, .inl (fun _ => 0))), (f5 11, .inl (f6 11, 400, .inl (fun _ => 0))), (f5 12, .inl (f6 12, 800, .inr (.inl (fun _ => 0)))), (f5 13, .inl (f6 13, 80, .inr (.inl (fun _ => 0)))), (f5 14, .inl (f6 14, 4, .inl (fun _ => 0))), (f5 15, .inl (f6 15, 4000, .inl (fun _ => 0))), (f5 16, .inl (f6 16, 4000, .inl (fun _ => 0))), (f5 17, .inl (f6 17, 4, .inl (fun _ => 0)))] H) (hD : va_D (fun q : Nat => s.heap.size ≤ q) [(q1, .inr (6, [.ref (f2 0), .int 0, .ref (f2 1), .ref (f2 2), .ref (f2 3), .ref (f2 4), .ref (f2 5), .ref (f2 6), .ref (f2 7), .int 0, .int 0, .ref (f2 8)])), (f2 0, .inl (f3 0, 400, .inl (fun _ => 0))), (f2 1, .inr (1, [.ref (f2 9), .ref (f2 10), .int 0, .int 0, .int 0])), (f2 9, .inl (f3 1, 8, .inr (.inr (.inr (.inr (rl [f2 11, f2 12, f2 13, f2 14, f2 15, f2 16, f2 17, f2 18])))))), (f2 10, .inl (f3 2, 10, .inr (.inr (.inr (.inr (rl [f2 27, f2 28, f2 29, f2 30, f2 31, f2 32, f2 33, f2 34, f2 35, f2 36])))))), (f2 11, .inr (3, [.int 0, .int 0, .ref (f2 19), .int 0, .int 0, .int 0, .int 0, .int 0])), (f2 19, .inl (f3 3, 80, .inr (.inl (fun _ => 0)))), (f2 12, .inr (3, [.int 0, .int 0, .ref (f2 20), .int 0, .int 0, .int 0, .int 0, .int 0])), (f2 20, .inl (f3 4, 80, .inr (.inl (fun _ => 0)))), (f2 13, .inr (3, [.int 0, .int 0, .ref (f2 21), .int 0, .int 0, .int 0, .int 0, .int 0])), (f2 21, .inl (f3 5, 80, .inr (.inl (fun _ => 0)))), (f2 14, .inr (3, [.int 0, .int 0, .ref (f2 22), .int 0, .int 0, .int 0, .int 0, .int 0])), (f2 22, .inl (f3 6, 80, .inr (.inl (fun _ => 0)))), (f2 15, .inr (3, [.int 0, .int 0, .ref (f2 23), .int 0, .int 0, .int 0, .int 0, .int 0])), (f2 23, .inl (f3 7, 80, .inr (.inl (fun _ => 0)))), (f2 16, .inr (3, [.int 0, .int 0, .ref (f2 24), .int 0, .int 0, .int 0, .int 0, .int 0])), (f2 24, .inl (f3 8, 80, .inr (.inl (fun _ => 0)))), (f2 17, .inr (3, [.int 0, .int 0, .ref (f2 25), .int 0, .int 0, .int 0, .int 0, .int 0])), (f2 25, .inl (f3 9, 80, .inr (.inl (fun _ => 0)))), (f2 18, .inr (3, [.int 0, .int 0, .ref (f2 26), .int 0, .int 0, .int 0, .int 0, .int 0])), (f2 26, .inl (f3 10, 80, .inr (.inl (fun _ => 0)))), (f2 27, .inr (0, [.int 0, .int 0, .int 0, .int 0, .int 0, .int 0, .int 0, .int 0])), (f2 28, .inr (0, [.int 0, .int 0, .int 0, .int 0, .int 0, .int 0, .int 0, .int 0])), (f2 29, .inr (0, [.int 0, .int 0, .int 0, .int 0, .int 0, .int 0, .int 0, .int 0])), (f2 30, .inr (0, [.int 0, .int 0, .int 0, .int 0, .int 0, .int 0, .int 0, .int 0])), (f2 31, .inr (0, [.int 0, .int 0, .int 0, .int 0, .int 0, .int 0, .int 0, .int 0])), (f2 32, .inr (0, [.int 0, .int 0, .int 0, .int 0, .int 0, .int 0, .int 0, .int 0])), (f2 33, .inr (0, [.int 0, .int 0, .int 0, .int 0, .int 0, .int 0, .int 0, .int 0])), (f2 34, .inr (0, [.int 0, .int 0, .int 0, .int 0, .int 0, .int 0, .int 0, .int 0])), (f2 35, .inr (0, [.int 0, .int 0, .int 0, .int 0, .int 0, .int 0, .int 0, .int 0])), (f2 36, .inr (0, [.int 0, .int 0, .int 0, .int 0, .int 0, .int 0, .int 0, .int 0])), (f2 2, .inr (1, [.ref (f2 37), .ref (f2 38), .int 0, .int 0, .int 0])), (f2 37, .inl (f3 11, 8, .inr (.inr (.inr (.inr (rl [f2 39, f2 40, f2 41, f2 42, f2 43, f2 44, f2 45, f2 46])))))), (f2 38, .inl (f3 12, 10, .inr (.inr (.inr (.inr (rl [f2 55, f2 56, f2 57, f2 58, f2 59, f2 60, f2 61, f2 62, f2 63, f2 64])))))), (f2 39, .inr (3, [.int 0, .int 0, .ref (f2 47), .int 0, .int 0, .int 0, .int 0, .int 0])), (f2 47, .inl (f3 13, 80, .inr (.inl (fun _ => 0)))), (f2 40, .inr (3, [.int 0, .int 0, .ref (f2 48), .int 0, .int 0, .int 0, .int 0, .int 0])), (f2 48, .inl (f3 14, 80, .inr (.inl (fun _ => 0)))), (f2 41, .inr (3, [.int 0, .int 0, .ref (f2 49), .int 0, .int 0, .int 0, .int 0, .int 0])), (f2 49, .inl (f3 15, 80, .inr (.inl (fun _ => 0)))), (f2 42, .inr (3, [.int 0, .int 0, .ref (f2 50), .int 0, .int 0, .int 0, .int 0, .int 0])), (f2 50, .inl (f3 16, 80, .inr (.inl (fun _ => 0)))), (f2 43, .inr (3, [.int 0, .int 0, .ref (f2 51), .int 0, .int 0, .int 0, .int 0, .int 0])), (f2 51, .inl (f3 17, 80, .inr (.inl (fun _ => 0)))), (f2 44, .inr (3, [.int 0, .int 0, .ref (f2 52), .int 0, .int 0, .int 0, .int 0, .int 0])), (f2 52, .inl (f3 18, 80, .inr (.inl (fun _ => 0)))), (f2 45, .inr (3, [.int 0, .int 0, .ref (f2 53), .int 0, .int 0, .int 0, .int 0, .int 0])), (f2 53, .inl (f3 19, 80, .inr (.inl (fun _ => 0)))), (f2 46, .inr (3, [.int 0, .int 0, .ref (f2 54), .int 0, .int 0, .int 0, .int 0, .int 0])), (f2 54, .inl (f3 20, 80, .inr (.inl (fun _ => 0)))), (f2 55, .inr (0, [.int 0, .int 0, .int 0, .int 0, .int 0, .int 0, .int 0, .int 0])), (f2 56, .inr (0, [.int 0, .int 0, .int 0, .int 0, .int 0, .int 0, .int 0, .int 0])), (f2 57, .inr (0, [.int 0, .int 0, .int 0, .int 0, .int 0, .int 0, .int 0, .int 0])), (f2 58, .inr (0, [.int 0, .int 0, .int 0, .int 0, .int 0, .int 0, .int 0, .int 0])), (f2 59, .inr (0, [.int 0, .int 0, .int 0, .int 0, .int 0, .int 0, .int 0, .int 0])), (f2 60, .inr (0, [.int 0, .int 0, .int 0, .int 0, .int 0, .int 0, .int 0, .int 0])), (f2 61, .inr (0, [.int 0, .int 0, .int 0, .int 0, .int 0, .int 0, .int 0, .int 0])), (f2 62, .inr (0, [.int 0, .int 0, .int 0, .int 0, .int 0, .int 0, .int 0, .int 0])), (f2 63, .inr (0, [.int 0, .int 0, .int 0, .int 0, .int 0, .int 0, .int 0, .int 0])), (f2 64, .inr (0, [.int 0, .int 0, .int 0, .int 0, .int 0, .int 0, .int 0, .int 0])), (f2 3, .inr (4, [.ref (f2 0), .int 0, .int 0, .int 0, .int 0, .int 0])), (f2 4, .inr (5, [.ref (f2 1), .ref (f2 65), .int 0, .int (-1), .int 0, .int 0, .int 0, .int 0, .int 0])), (f2 65, .inl (f3 21, 10, .inr (.inr (.inr (.inr (rl [f2 66, f2 67, f2 68, f2 69, f2 70, f2 71, f2 72, f2 73, f2 74, f2 75])))))), (f2 66, .inr (3, [.int 0, .int 0, .ref (f2 76), .int 0, .int 0, .int 0, .int 0, .int 0])), (f2 76, .inl (f3 22, 80, .inr (.inl (fun _ => 0)))), (f2 67, .inr (3, [.int 0, .int 0, .ref (f2 77), .int 0, .int 0, .int 0, .int 0, .int 0])), (f2 77, .inl (f3 23, 80, .inr (.inl (fun _ => 0)))), (f2 68, .inr (3, [.int 0, .int 0, .ref (f2 78), .int 0, .int 0, .int 0, .int 0, .int 0])), (f2 78, .inl (f3 24, 80, .inr (.inl (fun _ => 0)))), (f2 69, .inr (3, [.int 0, .int 0, .ref (f2 79), .int 0, .int 0, .int 0, .int 0, .int 0])), (f2 79, .inl (f3 25, 80, .inr (.inl (fun _ => 0)))), (f2 70, .inr (3, [.int 0, .int 0, .ref (f2 80), .int 0, .int 0, .int 0, .int 0, .int 0])), (f2 80, .inl (f3 26, 80, .inr (.inl (fun _ => 0)))), (f2 71, .inr (3, [.int 0, .int 0, .ref (f2 81), .int 0, .int 0, .int 0, .int 0, .int 0])), (f2 81, .inl (f3 27, 80, .inr (.inl (fun _ => 0)))), (f2 72, .inr (3, [.int 0, .int 0, .ref (f2 82), .int 0, .int 0, .int 0, .int 0, .int 0])), (f2 82, .inl (f3 28, 80, .inr (.inl (fun _ => 0)))), (f2 73, .inr (3, [.int 0, .int 0, .ref (f2 83), .int 0, .int 0, .int 0, .int 0, .int 0])), (f2 83, .inl (f3 29, 80, .inr (.inl (fun _ => 0)))), (f2 74, .inr (3, [.int 0, .int 0, .ref (f2 84), .int 0, .int 0, .int 0, .int 0, .int 0])), (f2 84, .inl (f3 30, 80, .inr (.inl (fun _ => 0)))), (f2 75, .inr (3, [.int 0, .int 0, .ref (f2 85), .int 0, .int 0, .int 0, .int 0, .int 0])), (f2 85, .inl (f3 31, 80, .inr (.inl (fun _ => 0)))), (f2 5, .inr (3, [.int 0, .int 0, .ref (f2 86), .int 0, .int 0, .int 0, .int 0, .int 0])), (f2 86, .inl (f3 32, 80, .inr (.inl (fun _ => 0)))), (f2 6, .inr (2, [.ref (f2 87), .ref (f2 89), .int 0, .int 0, .int 0, .int 0, .int 0, .int 0])), (f2 87, .inr (3, [.int 0, .int 0, .ref (f2 88), .int 0, .int 0, .int 0, .int 0, .int 0])), (f2 88, .inl (f3 33, 80, .inr (.inl (fun _ => 0)))), (f2 89, .inl (f3 34, 4000, .inl (fun _ => 0))), (f2 7, .inl (f3 35, 10, .inr (.inr (.inr (.inr (fun _ => none)))))), (f2 8, .inl (f3 36, 2, .inr (.inr (.inr (.inr (fun _ => none)))))), (q4, .inr (7, [.ref (f5 0), .ref (f5 1), .ref (f5 2), .ref (f5 3), .ref (f5 4), .ref (f5 5), .ref (f5 6), .ref (f5 7), .ref (f5 8), .ref (f5 9), .ref (f5 10), .int 0, .ref (f5 11), .int 0, .int 0, .int 0, .int 0, .ref (f5 12), .int 0, .ref (f5 13), .ref (f5 14), .ref (f5 15), .ref (f5 16), .int 0, .int 0, .ref (f5 17)])), (f5 0, .inl (f6 0, 99, .inl (fun _ => 0))), (f5 1, .inl (f6 1, 99, .inl (fun _ => 0))), (f5 2, .inl (f6 2, 99, .inl (fun _ => 0))), (f5 3, .inl (f6 3, 990, .inl (fun _ => 0))), (f5 4, .inl (f6 4, 198, .inl (fun _ => 0))), (f5 5, .inl (f6 5, 640, .inr (.inl (fun _ => 0)))), (f5 6, .inl (f6 6, 640, .inr (.inl (fun _ => 0)))), (f5 7, .inl (f6 7, 640, .inr (.inl (fun _ => 0)))), (f5 8, .inl (f6 8, 6400, .inr (.inl (fun _ => 0)))), (f5 9, .inl (f6 9, 1280, .inr (.inl (fun _ => 0)))), (f5 10, .inl (f6 10, 2, .inl (fun _ => 0))), (f5 11, .inl (f6 11, 400, .inl (fun _ => 0))), (f5 12, .inl (f6 12, 800, .inr (.inl (fun _ => 0)))), (f5 13, .inl (f6 13, 80, .inr (.inl (fun _ => 0)))), (f5 14, .inl (f6 14, 4, .inl (fun _ => 0))), (f5 15, .inl (f6 15, 4000, .inl (fun _ => 0))), (f5 16, .inl (f6 16, 4000, .inl (fun _ => 0))), (f5 17, .inl (f6 17, 4, .inl (fun _ => 0)))]) (hS : va_S (fun q : Nat => s.heap.size ≤ q) s.heap H locs) (hl : lv_has ls 4 [(3, .int 0), (2, .ref q4), (1, .ref q1), (0, .ref b)]) : W p l e room_1 s m #[Value.ref b] below meth c H locs 110 27528 (lw_Z below #[Value.ref b] s) (F0 m 18 ls []) := by
  obtain ⟨kB, u0⟩ : ∃ z, f3 0 = z := ⟨_, rfl⟩
  obtain ⟨k3, u1⟩ : ∃ z, f3 1 = z := ⟨_, rfl⟩
  obtain ⟨k0, u2⟩ : ∃ z, f3 2 = z := ⟨_, rfl⟩
  obtain ⟨kJ, u3⟩ : ∃ z, f3 3 = z := ⟨_, rfl⟩
  have u4 : f3 4 = kJ := (K_uniq hK hK (i := 3) (j := 4) rfl rfl).trans u3
  have u5 : f3 5 = kJ := (K_uniq hK hK (i := 3) (j := 5) rfl rfl).trans u3
  have u6 : f3 6 = kJ := (K_uniq hK hK (i := 3) (j := 6) rfl rfl).trans u3
  have u7 : f3 7 = kJ := (K_uniq hK hK (i := 3) (j := 7) rfl rfl).trans u3
  have u8 : f3 8 = kJ := (K_uniq hK hK (i := 3) (j := 8) rfl rfl).trans u3
  have u9 : f3 9 = kJ := (K_uniq hK hK (i := 3) (j := 9) rfl rfl).trans u3
  have u10 : f3 10 = kJ := (K_uniq hK hK (i := 3) (j := 10) rfl rfl).trans u3
  have u11 : f3 11 = k3 := (K_uniq hK hK (i := 1) (j := 11) rfl rfl).trans u1
  have u12 : f3 12 = k0 := (K_uniq hK hK (i := 2) (j := 12) rfl rfl).trans u2
  have u13 : f3 13 = kJ := (K_uniq hK hK (i := 3) (j := 13) rfl rfl).trans u3
  have u14 : f3 14 = kJ := (K_uniq hK hK (i := 3) (j := 14) rfl rfl).trans u3
  have u15 : f3 15 = kJ := (K_uniq hK hK (i := 3) (j := 15) rfl rfl).trans u3
  have u16 : f3 16 = kJ := (K_uniq hK hK (i := 3) (j := 16) rfl rfl).trans u3
  have u17 : f3 17 = kJ := (K_uniq hK hK (i := 3) (j := 17) rfl rfl).trans u3
  have u18 : f3 18 = kJ := (K_uniq hK hK (i := 3) (j := 18) rfl rfl).trans u3
  have u19 : f3 19 = kJ := (K_uniq hK hK (i := 3) (j := 19) rfl rfl).trans u3
  have u20 : f3 20 = kJ := (K_uniq hK hK (i := 3) (j := 20) rfl rfl).trans u3
  have u21 : f3 21 = k3 := (K_uniq hK hK (i := 1) (j := 21) rfl rfl).trans u1
  have u22 : f3 22 = kJ := (K_uniq hK hK (i := 3) (j := 22) rfl rfl).trans u3
  have u23 : f3 23 = kJ := (K_uniq hK hK (i := 3) (j := 23) rfl rfl).trans u3
  have u24 : f3 24 = kJ := (K_uniq hK hK (i := 3) (j := 24) rfl rfl).trans u3
  have u25 : f3 25 = kJ := (K_uniq hK hK (i := 3) (j := 25) rfl rfl).trans u3
  have u26 : f3 26 = kJ := (K_uniq hK hK (i := 3) (j := 26) rfl rfl).trans u3
  have u27 : f3 27 = kJ := (K_uniq hK hK (i := 3) (j := 27) rfl rfl).trans u3
  have u28 : f3 28 = kJ := (K_uniq hK hK (i := 3) (j := 28) rfl rfl).trans u3
  have u29 : f3 29 = kJ := (K_uniq hK hK (i := 3) (j := 29) rfl rfl).trans u3
  have u30 : f3 30 = kJ := (K_uniq hK hK (i := 3) (j := 30) rfl rfl).trans u3
  have u31 : f3 31 = kJ := (K_uniq hK hK (i := 3) (j := 31) rfl rfl).trans u3
  have u32 : f3 32 = kJ := (K_uniq hK hK (i := 3) (j := 32) rfl rfl).trans u3
  have u33 : f3 33 = kJ := (K_uniq hK hK (i := 3) (j := 33) rfl rfl).trans u3
  obtain ⟨kI, u34⟩ : ∃ z, f3 34 = z := ⟨_, rfl⟩
  obtain ⟨k1, u35⟩ : ∃ z, f3 35 = z := ⟨_, rfl⟩
  have u36 : f3 36 = k1 := (K_uniq hK hK (i := 35) (j := 36) rfl rfl).trans u35
  have u37 : f6 0 = kI := (K_uniq hK hK (i := 34) (j := 37) rfl rfl).trans u34
  have u38 : f6 1 = kI := (K_uniq hK hK (i := 34) (j := 38) rfl rfl).trans u34
  have u39 : f6 2 = kI := (K_uniq hK hK (i := 34) (j := 39) rfl rfl).trans u34
  have u40 : f6 3 = kI := (K_uniq hK hK (i := 34) (j := 40) rfl rfl).trans u34
  have u41 : f6 4 = kI := (K_uniq hK hK (i := 34) (j := 41) rfl rfl).trans u34
  have u42 : f6 5 = kJ := (K_uniq hK hK (i := 3) (j := 42) rfl rfl).trans u3
  have u43 : f6 6 = kJ := (K_uniq hK hK (i := 3) (j := 43) rfl rfl).trans u3
  have u44 : f6 7 = kJ := (K_uniq hK hK (i := 3) (j := 44) rfl rfl).trans u3
  have u45 : f6 8 = kJ := (K_uniq hK hK (i := 3) (j := 45) rfl rfl).trans u3
  have u46 : f6 9 = kJ := (K_uniq hK hK (i := 3) (j := 46) rfl rfl).trans u3
  obtain ⟨kZ, u47⟩ : ∃ z, f6 10 = z := ⟨_, rfl⟩
  have u48 : f6 11 = kB := (K_uniq hK hK (i := 0) (j := 48) rfl rfl).trans u0
  have u49 : f6 12 = kJ := (K_uniq hK hK (i := 3) (j := 49) rfl rfl).trans u3
  have u50 : f6 13 = kJ := (K_uniq hK hK (i := 3) (j := 50) rfl rfl).trans u3
  have u51 : f6 14 = kI := (K_uniq hK hK (i := 34) (j := 51) rfl rfl).trans u34
  have u52 : f6 15 = kI := (K_uniq hK hK (i := 34) (j := 52) rfl rfl).trans u34
  have u53 : f6 16 = kI := (K_uniq hK hK (i := 34) (j := 53) rfl rfl).trans u34
  have u54 : f6 17 = kI := (K_uniq hK hK (i := 34) (j := 54) rfl rfl).trans u34
  have hP : va_P (dC, dI) vwCl [(q1, .inr (6, [.ref (f2 0), .int 0, .ref (f2 1), .ref (f2 2), .ref (f2 3), .ref (f2 4), .ref (f2 5), .ref (f2 6), .ref (f2 7), .int 0, .int 0, .ref (f2 8)])), (f2 0, .inl (kB, 400, .inl (fun _ => 0))), (f2 1, .inr (1, [.ref (f2 9), .ref (f2 10), .int 0, .int 0, .int 0])), (f2 9, .inl (k3, 8, .inr (.inr (.inr (.inr (rl [f2 11, f2 12, f2 13, f2 14, f2 15, f2 16, f2 17, f2 18])))))), (f2 10, .inl (k0, 10, .inr (.inr (.inr (.inr (rl [f2 27, f2 28, f2 29, f2 30, f2 31, f2 32, f2 33, f2 34, f2 35, f2 36])))))), (f2 11, .inr (3, [.int 0, .int 0, .ref (f2 19), .int 0, .int 0, .int 0, .int 0, .int 0])), (f2 19, .inl (kJ, 80, .inr (.inl (fun _ => 0)))), (f2 12, .inr (3, [.int 0, .int 0, .ref (f2 20), .int 0, .int 0, .int 0, .int 0, .int 0])), (f2 20, .inl (kJ, 80, .inr (.inl (fun _ => 0)))), (f2 13, .inr (3, [.int 0, .int 0, .ref (f2 21), .int 0, .int 0, .int 0, .int 0, .int 0])), (f2 21, .inl (kJ, 80, .inr (.inl (fun _ => 0)))), (f2 14, .inr (3, [.int 0, .int 0, .ref (f2 22), .int 0, .int 0, .int 0, .int 0, .int 0])), (f2 22, .inl (kJ, 80, .inr (.inl (fun _ => 0)))), (f2 15, .inr (3, [.int 0, .int 0, .ref (f2 23), .int 0, .int 0, .int 0, .int 0, .int 0])), (f2 23, .inl (kJ, 80, .inr (.inl (fun _ => 0)))), (f2 16, .inr (3, [.int 0, .int 0, .ref (f2 24), .int 0, .int 0, .int 0, .int 0, .int 0])), (f2 24, .inl (kJ, 80, .inr (.inl (fun _ => 0)))), (f2 17, .inr (3, [.int 0, .int 0, .ref (f2 25), .int 0, .int 0, .int 0, .int 0, .int 0])), (f2 25, .inl (kJ, 80, .inr (.inl (fun _ => 0)))), (f2 18, .inr (3, [.int 0, .int 0, .ref (f2 26), .int 0, .int 0, .int 0, .int 0, .int 0])), (f2 26, .inl (kJ, 80, .inr (.inl (fun _ => 0)))), (f2 27, .inr (0, [.int 0, .int 0, .int 0, .int 0, .int 0, .int 0, .int 0, .int 0])), (f2 28, .inr (0, [.int 0, .int 0, .int 0, .int 0, .int 0, .int 0, .int 0, .int 0])), (f2 29, .inr (0, [.int 0, .int 0, .int 0, .int 0, .int 0, .int 0, .int 0, .int 0])), (f2 30, .inr (0, [.int 0, .int 0, .int 0, .int 0, .int 0, .int 0, .int 0, .int 0])), (f2 31, .inr (0, [.int 0, .int 0, .int 0, .int 0, .int 0, .int 0, .int 0, .int 0])), (f2 32, .inr (0, [.int 0, .int 0, .int 0, .int 0, .int 0, .int 0, .int 0, .int 0])), (f2 33, .inr (0, [.int 0, .int 0, .int 0, .int 0, .int 0, .int 0, .int 0, .int 0])), (f2 34, .inr (0, [.int 0, .int 0, .int 0, .int 0, .int 0, .int 0, .int 0, .int 0])), (f2 35, .inr (0, [.int 0, .int 0, .int 0, .int 0, .int 0, .int 0, .int 0, .int 0])), (f2 36, .inr (0, [.int 0, .int 0, .int 0, .int 0, .int 0, .int 0, .int 0, .int 0])), (f2 2, .inr (1, [.ref (f2 37), .ref (f2 38), .int 0, .int 0, .int 0])), (f2 37, .inl (k3, 8, .inr (.inr (.inr (.inr (rl [f2 39, f2 40, f2 41, f2 42, f2 43, f2 44, f2 45, f2 46])))))), (f2 38, .inl (k0, 10, .inr (.inr (.inr (.inr (rl [f2 55, f2 56, f2 57, f2 58, f2 59, f2 60, f2 61, f2 62, f2 63, f2 64])))))), (f2 39, .inr (3, [.int 0, .int 0, .ref (f2 47), .int 0, .int 0, .int 0, .int 0, .int 0])), (f2 47, .inl (kJ, 80, .inr (.inl (fun _ => 0)))), (f2 40, .inr (3, [.int 0, .int 0, .ref (f2 48), .int 0, .int 0, .int 0, .int 0, .int 0])), (f2 48, .inl (kJ, 80, .inr (.inl (fun _ => 0)))), (f2 41, .inr (3, [.int 0, .int 0, .ref (f2 49), .int 0, .int 0, .int 0, .int 0, .int 0])), (f2 49, .inl (kJ, 80, .inr (.inl (fun _ => 0)))), (f2 42, .inr (3, [.int 0, .int 0, .ref (f2 50), .int 0, .int 0, .int 0, .int 0, .int 0])), (f2 50, .inl (kJ, 80, .inr (.inl (fun _ => 0)))), (f2 43, .inr (3, [.int 0, .int 0, .ref (f2 51), .int 0, .int 0, .int 0, .int 0, .int 0])), (f2 51, .inl (kJ, 80, .inr (.inl (fun _ => 0)))), (f2 44, .inr (3, [.int 0, .int 0, .ref (f2 52), .int 0, .int 0, .int 0, .int 0, .int 0])), (f2 52, .inl (kJ, 80, .inr (.inl (fun _ => 0)))), (f2 45, .inr (3, [.int 0, .int 0, .ref (f2 53), .int 0, .int 0, .int 0, .int 0, .int 0])), (f2 53, .inl (kJ, 80, .inr (.inl (fun _ => 0)))), (f2 46, .inr (3, [.int 0, .int 0, .ref (f2 54), .int 0, .int 0, .int 0, .int 0, .int 0])), (f2 54, .inl (kJ, 80, .inr (.inl (fun _ => 0)))), (f2 55, .inr (0, [.int 0, .int 0, .int 0, .int 0, .int 0, .int 0, .int 0, .int 0])), (f2 56, .inr (0, [.int 0, .int 0, .int 0, .int 0, .int 0, .int 0, .int 0, .int 0])), (f2 57, .inr (0, [.int 0, .int 0, .int 0, .int 0, .int 0, .int 0, .int 0, .int 0])), (f2 58, .inr (0, [.int 0, .int 0, .int 0, .int 0, .int 0, .int 0, .int 0, .int 0])), (f2 59, .inr (0, [.int 0, .int 0, .int 0, .int 0, .int 0, .int 0, .int 0, .int 0])), (f2 60, .inr (0, [.int 0, .int 0, .int 0, .int 0, .int 0, .int 0, .int 0, .int 0])), (f2 61, .inr (0, [.int 0, .int 0, .int 0, .int 0, .int 0, .int 0, .int 0, .int 0])), (f2 62, .inr (0, [.int 0, .int 0, .int 0, .int 0, .int 0, .int 0, .int 0, .int 0])), (f2 63, .inr (0, [.int 0, .int 0, .int 0, .int 0, .int 0, .int 0, .int 0, .int 0])), (f2 64, .inr (0, [.int 0, .int 0, .int 0, .int 0, .int 0, .int 0, .int 0, .int 0])), (f2 3, .inr (4, [.ref (f2 0), .int 0, .int 0, .int 0, .int 0, .int 0])), (f2 4, .inr (5, [.ref (f2 1), .ref (f2 65), .int 0, .int (-1), .int 0, .int 0, .int 0, .int 0, .int 0])), (f2 65, .inl (k3, 10, .inr (.inr (.inr (.inr (rl [f2 66, f2 67, f2 68, f2 69, f2 70, f2 71, f2 72, f2 73, f2 74, f2 75])))))), (f2 66, .inr (3, [.int 0, .int 0, .ref (f2 76), .int 0, .int 0, .int 0, .int 0, .int 0])), (f2 76, .inl (kJ, 80, .inr (.inl (fun _ => 0)))), (f2 67, .inr (3, [.int 0, .int 0, .ref (f2 77), .int 0, .int 0, .int 0, .int 0, .int 0])), (f2 77, .inl (kJ, 80, .inr (.inl (fun _ => 0)))), (f2 68, .inr (3, [.int 0, .int 0, .ref (f2 78), .int 0, .int 0, .int 0, .int 0, .int 0])), (f2 78, .inl (kJ, 80, .inr (.inl (fun _ => 0)))), (f2 69, .inr (3, [.int 0, .int 0, .ref (f2 79), .int 0, .int 0, .int 0, .int 0, .int 0])), (f2 79, .inl (kJ, 80, .inr (.inl (fun _ => 0)))), (f2 70, .inr (3, [.int 0, .int 0, .ref (f2 80), .int 0, .int 0, .int 0, .int 0, .int 0])), (f2 80, .inl (kJ, 80, .inr (.inl (fun _ => 0)))), (f2 71, .inr (3, [.int 0, .int 0, .ref (f2 81), .int 0, .int 0, .int 0, .int 0, .int 0])), (f2 81, .inl (kJ, 80, .inr (.inl (fun _ => 0)))), (f2 72, .inr (3, [.int 0, .int 0, .ref (f2 82), .int 0, .int 0, .int 0, .int 0, .int 0])), (f2 82, .inl (kJ, 80, .inr (.inl (fun _ => 0)))), (f2 73, .inr (3, [.int 0, .int 0, .ref (f2 83), .int 0, .int 0, .int 0, .int 0, .int 0])), (f2 83, .inl (kJ, 80, .inr (.inl (fun _ => 0)))), (f2 74, .inr (3, [.int 0, .int 0, .ref (f2 84), .int 0, .int 0, .int 0, .int 0, .int 0])), (f2 84, .inl (kJ, 80, .inr (.inl (fun _ => 0)))), (f2 75, .inr (3, [.int 0, .int 0, .ref (f2 85), .int 0, .int 0, .int 0, .int 0, .int 0])), (f2 85, .inl (kJ, 80, .inr (.inl (fun _ => 0)))), (f2 5, .inr (3, [.int 0, .int 0, .ref (f2 86), .int 0, .int 0, .int 0, .int 0, .int 0])), (f2 86, .inl (kJ, 80, .inr (.inl (fun _ => 0)))), (f2 6, .inr (2, [.ref (f2 87), .ref (f2 89), .int 0, .int 0, .int 0, .int 0, .int 0, .int 0])), (f2 87, .inr (3, [.int 0, .int 0, .ref (f2 88), .int 0, .int 0, .int 0, .int 0, .int 0])), (f2 88, .inl (kJ, 80, .inr (.inl (fun _ => 0)))), (f2 89, .inl (kI, 4000, .inl (fun _ => 0))), (f2 7, .inl (k1, 10, .inr (.inr (.inr (.inr (fun _ => none)))))), (f2 8, .inl (k1, 2, .inr (.inr (.inr (.inr (fun _ => none)))))), (q4, .inr (7, [.ref (f5 0), .ref (f5 1), .ref (f5 2), .ref (f5 3), .ref (f5 4), .ref (f5 5), .ref (f5 6), .ref (f5 7), .ref (f5 8), .ref (f5 9), .ref (f5 10), .int 0, .ref (f5 11), .int 0, .int 0, .int 0, .int 0, .ref (f5 12), .int 0, .ref (f5 13), .ref (f5 14), .ref (f5 15), .ref (f5 16), .int 0, .int 0, .ref (f5 17)])), (f5 0, .inl (kI, 99, .inl (fun _ => 0))), (f5 1, .inl (kI, 99, .inl (fun _ => 0))), (f5 2, .inl (kI, 99, .inl (fun _ => 0))), (f5 3, .inl (kI, 990, .inl (fun _ => 0))), (f5 4, .inl (kI, 198, .inl (fun _ => 0))), (f5 5, .inl (kJ, 640, .inr (.inl (fun _ => 0)))), (f5 6, .inl (kJ, 640, .inr (.inl (fun _ => 0)))), (f5 7, .inl (kJ, 640, .inr (.inl (fun _ => 0)))), (f5 8, .inl (kJ, 6400, .inr (.inl (fun _ => 0)))), (f5 9, .inl (kJ, 1280, .inr (.inl (fun _ => 0)))), (f5 10, .inl (kZ, 2, .inl (fun _ => 0))), (f5 11, .inl (kB, 400, .inl (fun _ => 0))), (f5 12, .inl (kJ, 800, .inr (.inl (fun _ => 0)))), (f5 13, .inl (kJ, 80, .inr (.inl (fun _ => 0)))), (f5 14, .inl (kI, 4, .inl (fun _ => 0))), (f5 15, .inl (kI, 4000, .inl (fun _ => 0))), (f5 16, .inl (kI, 4000, .inl (fun _ => 0))), (f5 17, .inl (kI, 4, .inl (fun _ => 0)))] H := by simp only [u0, u1, u2, u3, u4, u5, u6, u7, u8, u9, u10, u11, u12, u13, u14, u15, u16, u17, u18, u19, u20, u21, u22, u23, u24, u25, u26, u27, u28, u29, u30, u31, u32, u33, u34, u35, u36, u37, u38, u39, u40, u41, u42, u43, u44, u45, u46, u47, u48, u49, u50, u51, u52, u53, u54] at hP; exact hP
  have hD : va_D (fun q : Nat => s.heap.size ≤ q) [(q1, .inr (6, [.ref (f2 0), .int 0, .ref (f2 1), .ref (f2 2), .ref (f2 3), .ref (f2 4), .ref (f2 5), .ref (f2 6), .ref (f2 7), .int 0, .int 0, .ref (f2 8)])), (f2 0, .inl (kB, 400, .inl (fun _ => 0))), (f2 1, .inr (1, [.ref (f2 9), .ref (f2 10), .int 0, .int 0, .int 0])), (f2 9, .inl (k3, 8, .inr (.inr (.inr (.inr (rl [f2 11, f2 12, f2 13, f2 14, f2 15, f2 16, f2 17, f2 18])))))), (f2 10, .inl (k0, 10, .inr (.inr (.inr (.inr (rl [f2 27, f2 28, f2 29, f2 30, f2 31, f2 32, f2 33, f2 34, f2 35, f2 36])))))), (f2 11, .inr (3, [.int 0, .int 0, .ref (f2 19), .int 0, .int 0, .int 0, .int 0, .int 0])), (f2 19, .inl (kJ, 80, .inr (.inl (fun _ => 0)))), (f2 12, .inr (3, [.int 0, .int 0, .ref (f2 20), .int 0, .int 0, .int 0, .int 0, .int 0])), (f2 20, .inl (kJ, 80, .inr (.inl (fun _ => 0)))), (f2 13, .inr (3, [.int 0, .int 0, .ref (f2 21), .int 0, .int 0, .int 0, .int 0, .int 0])), (f2 21, .inl (kJ, 80, .inr (.inl (fun _ => 0)))), (f2 14, .inr (3, [.int 0, .int 0, .ref (f2 22), .int 0, .int 0, .int 0, .int 0, .int 0])), (f2 22, .inl (kJ, 80, .inr (.inl (fun _ => 0)))), (f2 15, .inr (3, [.int 0, .int 0, .ref (f2 23), .int 0, .int 0, .int 0, .int 0, .int 0])), (f2 23, .inl (kJ, 80, .inr (.inl (fun _ => 0)))), (f2 16, .inr (3, [.int 0, .int 0, .ref (f2 24), .int 0, .int 0, .int 0, .int 0, .int 0])), (f2 24, .inl (kJ, 80, .inr (.inl (fun _ => 0)))), (f2 17, .inr (3, [.int 0, .int 0, .ref (f2 25), .int 0, .int 0, .int 0, .int 0, .int 0])), (f2 25, .inl (kJ, 80, .inr (.inl (fun _ => 0)))), (f2 18, .inr (3, [.int 0, .int 0, .ref (f2 26), .int 0, .int 0, .int 0, .int 0, .int 0])), (f2 26, .inl (kJ, 80, .inr (.inl (fun _ => 0)))), (f2 27, .inr (0, [.int 0, .int 0, .int 0, .int 0, .int 0, .int 0, .int 0, .int 0])), (f2 28, .inr (0, [.int 0, .int 0, .int 0, .int 0, .int 0, .int 0, .int 0, .int 0])), (f2 29, .inr (0, [.int 0, .int 0, .int 0, .int 0, .int 0, .int 0, .int 0, .int 0])), (f2 30, .inr (0, [.int 0, .int 0, .int 0, .int 0, .int 0, .int 0, .int 0, .int 0])), (f2 31, .inr (0, [.int 0, .int 0, .int 0, .int 0, .int 0, .int 0, .int 0, .int 0])), (f2 32, .inr (0, [.int 0, .int 0, .int 0, .int 0, .int 0, .int 0, .int 0, .int 0])), (f2 33, .inr (0, [.int 0, .int 0, .int 0, .int 0, .int 0, .int 0, .int 0, .int 0])), (f2 34, .inr (0, [.int 0, .int 0, .int 0, .int 0, .int 0, .int 0, .int 0, .int 0])), (f2 35, .inr (0, [.int 0, .int 0, .int 0, .int 0, .int 0, .int 0, .int 0, .int 0])), (f2 36, .inr (0, [.int 0, .int 0, .int 0, .int 0, .int 0, .int 0, .int 0, .int 0])), (f2 2, .inr (1, [.ref (f2 37), .ref (f2 38), .int 0, .int 0, .int 0])), (f2 37, .inl (k3, 8, .inr (.inr (.inr (.inr (rl [f2 39, f2 40, f2 41, f2 42, f2 43, f2 44, f2 45, f2 46])))))), (f2 38, .inl (k0, 10, .inr (.inr (.inr (.inr (rl [f2 55, f2 56, f2 57, f2 58, f2 59, f2 60, f2 61, f2 62, f2 63, f2 64])))))), (f2 39, .inr (3, [.int 0, .int 0, .ref (f2 47), .int 0, .int 0, .int 0, .int 0, .int 0])), (f2 47, .inl (kJ, 80, .inr (.inl (fun _ => 0)))), (f2 40, .inr (3, [.int 0, .int 0, .ref (f2 48), .int 0, .int 0, .int 0, .int 0, .int 0])), (f2 48, .inl (kJ, 80, .inr (.inl (fun _ => 0)))), (f2 41, .inr (3, [.int 0, .int 0, .ref (f2 49), .int 0, .int 0, .int 0, .int 0, .int 0])), (f2 49, .inl (kJ, 80, .inr (.inl (fun _ => 0)))), (f2 42, .inr (3, [.int 0, .int 0, .ref (f2 50), .int 0, .int 0, .int 0, .int 0, .int 0])), (f2 50, .inl (kJ, 80, .inr (.inl (fun _ => 0)))), (f2 43, .inr (3, [.int 0, .int 0, .ref (f2 51), .int 0, .int 0, .int 0, .int 0, .int 0])), (f2 51, .inl (kJ, 80, .inr (.inl (fun _ => 0)))), (f2 44, .inr (3, [.int 0, .int 0, .ref (f2 52), .int 0, .int 0, .int 0, .int 0, .int 0])), (f2 52, .inl (kJ, 80, .inr (.inl (fun _ => 0)))), (f2 45, .inr (3, [.int 0, .int 0, .ref (f2 53), .int 0, .int 0, .int 0, .int 0, .int 0])), (f2 53, .inl (kJ, 80, .inr (.inl (fun _ => 0)))), (f2 46, .inr (3, [.int 0, .int 0, .ref (f2 54), .int 0, .int 0, .int 0, .int 0, .int 0])), (f2 54, .inl (kJ, 80, .inr (.inl (fun _ => 0)))), (f2 55, .inr (0, [.int 0, .int 0, .int 0, .int 0, .int 0, .int 0, .int 0, .int 0])), (f2 56, .inr (0, [.int 0, .int 0, .int 0, .int 0, .int 0, .int 0, .int 0, .int 0])), (f2 57, .inr (0, [.int 0, .int 0, .int 0, .int 0, .int 0, .int 0, .int 0, .int 0])), (f2 58, .inr (0, [.int 0, .int 0, .int 0, .int 0, .int 0, .int 0, .int 0, .int 0])), (f2 59, .inr (0, [.int 0, .int 0, .int 0, .int 0, .int 0, .int 0, .int 0, .int 0])), (f2 60, .inr (0, [.int 0, .int 0, .int 0, .int 0, .int 0, .int 0, .int 0, .int 0])), (f2 61, .inr (0, [.int 0, .int 0, .int 0, .int 0, .int 0, .int 0, .int 0, .int 0])), (f2 62, .inr (0, [.int 0, .int 0, .int 0, .int 0, .int 0, .int 0, .int 0, .int 0])), (f2 63, .inr (0, [.int 0, .int 0, .int 0, .int 0, .int 0, .int 0, .int 0, .int 0])), (f2 64, .inr (0, [.int 0, .int 0, .int 0, .int 0, .int 0, .int 0, .int 0, .int 0])), (f2 3, .inr (4, [.ref (f2 0), .int 0, .int 0, .int 0, .int 0, .int 0])), (f2 4, .inr (5, [.ref (f2 1), .ref (f2 65), .int 0, .int (-1), .int 0, .int 0, .int 0, .int 0, .int 0])), (f2 65, .inl (k3, 10, .inr (.inr (.inr (.inr (rl [f2 66, f2 67, f2 68, f2 69, f2 70, f2 71, f2 72, f2 73, f2 74, f2 75])))))), (f2 66, .inr (3, [.int 0, .int 0, .ref (f2 76), .int 0, .int 0, .int 0, .int 0, .int 0])), (f2 76, .inl (kJ, 80, .inr (.inl (fun _ => 0)))), (f2 67, .inr (3, [.int 0, .int 0, .ref (f2 77), .int 0, .int 0, .int 0, .int 0, .int 0])), (f2 77, .inl (kJ, 80, .inr (.inl (fun _ => 0)))), (f2 68, .inr (3, [.int 0, .int 0, .ref (f2 78), .int 0, .int 0, .int 0, .int 0, .int 0])), (f2 78, .inl (kJ, 80, .inr (.inl (fun _ => 0)))), (f2 69, .inr (3, [.int 0, .int 0, .ref (f2 79), .int 0, .int 0, .int 0, .int 0, .int 0])), (f2 79, .inl (kJ, 80, .inr (.inl (fun _ => 0)))), (f2 70, .inr (3, [.int 0, .int 0, .ref (f2 80), .int 0, .int 0, .int 0, .int 0, .int 0])), (f2 80, .inl (kJ, 80, .inr (.inl (fun _ => 0)))), (f2 71, .inr (3, [.int 0, .int 0, .ref (f2 81), .int 0, .int 0, .int 0, .int 0, .int 0])), (f2 81, .inl (kJ, 80, .inr (.inl (fun _ => 0)))), (f2 72, .inr (3, [.int 0, .int 0, .ref (f2 82), .int 0, .int 0, .int 0, .int 0, .int 0])), (f2 82, .inl (kJ, 80, .inr (.inl (fun _ => 0)))), (f2 73, .inr (3, [.int 0, .int 0, .ref (f2 83), .int 0, .int 0, .int 0, .int 0, .int 0])), (f2 83, .inl (kJ, 80, .inr (.inl (fun _ => 0)))), (f2 74, .inr (3, [.int 0, .int 0, .ref (f2 84), .int 0, .int 0, .int 0, .int 0, .int 0])), (f2 84, .inl (kJ, 80, .inr (.inl (fun _ => 0)))), (f2 75, .inr (3, [.int 0, .int 0, .ref (f2 85), .int 0, .int 0, .int 0, .int 0, .int 0])), (f2 85, .inl (kJ, 80, .inr (.inl (fun _ => 0)))), (f2 5, .inr (3, [.int 0, .int 0, .ref (f2 86), .int 0, .int 0, .int 0, .int 0, .int 0])), (f2 86, .inl (kJ, 80, .inr (.inl (fun _ => 0)))), (f2 6, .inr (2, [.ref (f2 87), .ref (f2 89), .int 0, .int 0, .int 0, .int 0, .int 0, .int 0])), (f2 87, .inr (3, [.int 0, .int 0, .ref (f2 88), .int 0, .int 0, .int 0, .int 0, .int 0])), (f2 88, .inl (kJ, 80, .inr (.inl (fun _ => 0)))), (f2 89, .inl (kI, 4000, .inl (fun _ => 0))), (f2 7, .inl (k1, 10, .inr (.inr (.inr (.inr (fun _ => none)))))), (f2 8, .inl (k1, 2, .inr (.inr (.inr (.inr (fun _ => none)))))), (q4, .inr (7, [.ref (f5 0), .ref (f5 1), .ref (f5 2), .ref (f5 3), .ref (f5 4), .ref (f5 5), .ref (f5 6), .ref (f5 7), .ref (f5 8), .ref (f5 9), .ref (f5 10), .int 0, .ref (f5 11), .int 0, .int 0, .int 0, .int 0, .ref (f5 12), .int 0, .ref (f5 13), .ref (f5 14), .ref (f5 15), .ref (f5 16), .int 0, .int 0, .ref (f5 17)])), (f5 0, .inl (kI, 99, .inl (fun _ => 0))), (f5 1, .inl (kI, 99, .inl (fun _ => 0))), (f5 2, .inl (kI, 99, .inl (fun _ => 0))), (f5 3, .inl (kI, 990, .inl (fun _ => 0))), (f5 4, .inl (kI, 198, .inl (fun _ => 0))), (f5 5, .inl (kJ, 640, .inr (.inl (fun _ => 0)))), (f5 6, .inl (kJ, 640, .inr (.inl (fun _ => 0)))), (f5 7, .inl (kJ, 640, .inr (.inl (fun _ => 0)))), (f5 8, .inl (kJ, 6400, .inr (.inl (fun _ => 0)))), (f5 9, .inl (kJ, 1280, .inr (.inl (fun _ => 0)))), (f5 10, .inl (kZ, 2, .inl (fun _ => 0))), (f5 11, .inl (kB, 400, .inl (fun _ => 0))), (f5 12, .inl (kJ, 800, .inr (.inl (fun _ => 0)))), (f5 13, .inl (kJ, 80, .inr (.inl (fun _ => 0)))), (f5 14, .inl (kI, 4, .inl (fun _ => 0))), (f5 15, .inl (kI, 4000, .inl (fun _ => 0))), (f5 16, .inl (kI, 4000, .inl (fun _ => 0))), (f5 17, .inl (kI, 4, .inl (fun _ => 0)))] := by simp only [u0, u1, u2, u3, u4, u5, u6, u7, u8, u9, u10, u11, u12, u13, u14, u15, u16, u17, u18, u19, u20, u21, u22, u23, u24, u25, u26, u27, u28, u29, u30, u31, u32, u33, u34, u35, u36, u37, u38, u39, u40, u41, u42, u43, u44, u45, u46, u47, u48, u49, u50, u51, u52, u53, u54] at hD; exact hD
  have hK : va_K (dC, dI) vwCl [(kB, .byte), (k3, .object RX3), (k0, .object RX0), (kJ, .long), (kJ, .long), (kJ, .long), (kJ, .long), (kJ, .long), (kJ, .long), (kJ, .long), (kJ, .long), (k3, .object RX3), (k0, .object RX0), (kJ, .long), (kJ, .long), (kJ, .long), (kJ, .long), (kJ, .long), (kJ, .long), (kJ, .long), (kJ, .long), (k3, .object RX3), (kJ, .long), (kJ, .long), (kJ, .long), (kJ, .long), (kJ, .long), (kJ, .long), (kJ, .long), (kJ, .long), (kJ, .long), (kJ, .long), (kJ, .long), (kJ, .long), (kI, .int), (k1, .object RX1), (k1, .object RX1), (kI, .int), (kI, .int), (kI, .int), (kI, .int), (kI, .int), (kJ, .long), (kJ, .long), (kJ, .long), (kJ, .long), (kJ, .long), (kZ, .boolean), (kB, .byte), (kJ, .long), (kJ, .long), (kI, .int), (kI, .int), (kI, .int), (kI, .int)] s := by simp only [u0, u1, u2, u3, u4, u5, u6, u7, u8, u9, u10, u11, u12, u13, u14, u15, u16, u17, u18, u19, u20, u21, u22, u23, u24, u25, u26, u27, u28, u29, u30, u31, u32, u33, u34, u35, u36, u37, u38, u39, u40, u41, u42, u43, u44, u45, u46, u47, u48, u49, u50, u51, u52, u53, u54] at hK; exact hK
  have hKt : va_K (dC, dI) vwCl (tysA (csF kB kI kJ k3 k0 k1 kZ)) s := hK.sub (tys' := tysA (csF kB kI kJ k3 k0 k1 kZ)) [0, 34, 3, 1, 2, 1, 35, 35, 34, 34, 34, 3, 3, 3, 47, 3, 34, 34, 34, 34, 34, 0, 3, 3, 3] rfl
  have hD2 := hD.sub (ws' := [(f5 0, .inl (kI, 99, .inl (fun _ => 0))), (f5 1, .inl (kI, 99, .inl (fun _ => 0))), (f5 2, .inl (kI, 99, .inl (fun _ => 0))), (f5 3, .inl (kI, 990, .inl (fun _ => 0))), (f5 4, .inl (kI, 198, .inl (fun _ => 0))), (f5 5, .inl (kJ, 640, .inr (.inl (fun _ => 0)))), (f5 6, .inl (kJ, 640, .inr (.inl (fun _ => 0)))), (f5 7, .inl (kJ, 640, .inr (.inl (fun _ => 0)))), (f5 8, .inl (kJ, 6400, .inr (.inl (fun _ => 0)))), (f5 9, .inl (kJ, 1280, .inr (.inl (fun _ => 0)))), (f5 10, .inl (kZ, 2, .inl (fun _ => 0))), (f5 11, .inl (kB, 400, .inl (fun _ => 0))), (f5 12, .inl (kJ, 800, .inr (.inl (fun _ => 0)))), (f5 13, .inl (kJ, 80, .inr (.inl (fun _ => 0)))), (f5 14, .inl (kI, 4, .inl (fun _ => 0))), (f5 15, .inl (kI, 4000, .inl (fun _ => 0))), (f5 16, .inl (kI, 4000, .inl (fun _ => 0))), (f5 17, .inl (kI, 4, .inl (fun _ => 0))), (f2 0, .inl (kB, 400, .inl (fun _ => 0))), (f2 11, .inr (3, [.int 0, .int 0, .ref (f2 19), .int 0, .int 0, .int 0, .int 0, .int 0])), (f2 19, .inl (kJ, 80, .inr (.inl (fun _ => 0)))), (f2 12, .inr (3, [.int 0, .int 0, .ref (f2 20), .int 0, .int 0, .int 0, .int 0, .int 0])), (f2 20, .inl (kJ, 80, .inr (.inl (fun _ => 0)))), (f2 13, .inr (3, [.int 0, .int 0, .ref (f2 21), .int 0, .int 0, .int 0, .int 0, .int 0])), (f2 21, .inl (kJ, 80, .inr (.inl (fun _ => 0)))), (f2 14, .inr (3, [.int 0, .int 0, .ref (f2 22), .int 0, .int 0, .int 0, .int 0, .int 0])), (f2 22, .inl (kJ, 80, .inr (.inl (fun _ => 0)))), (f2 15, .inr (3, [.int 0, .int 0, .ref (f2 23), .int 0, .int 0, .int 0, .int 0, .int 0])), (f2 23, .inl (kJ, 80, .inr (.inl (fun _ => 0)))), (f2 16, .inr (3, [.int 0, .int 0, .ref (f2 24), .int 0, .int 0, .int 0, .int 0, .int 0])), (f2 24, .inl (kJ, 80, .inr (.inl (fun _ => 0)))), (f2 17, .inr (3, [.int 0, .int 0, .ref (f2 25), .int 0, .int 0, .int 0, .int 0, .int 0])), (f2 25, .inl (kJ, 80, .inr (.inl (fun _ => 0)))), (f2 18, .inr (3, [.int 0, .int 0, .ref (f2 26), .int 0, .int 0, .int 0, .int 0, .int 0])), (f2 26, .inl (kJ, 80, .inr (.inl (fun _ => 0)))), (f2 27, .inr (0, [.int 0, .int 0, .int 0, .int 0, .int 0, .int 0, .int 0, .int 0])), (f2 28, .inr (0, [.int 0, .int 0, .int 0, .int 0, .int 0, .int 0, .int 0, .int 0])), (f2 29, .inr (0, [.int 0, .int 0, .int 0, .int 0, .int 0, .int 0, .int 0, .int 0])), (f2 30, .inr (0, [.int 0, .int 0, .int 0, .int 0, .int 0, .int 0, .int 0, .int 0])), (f2 31, .inr (0, [.int 0, .int 0, .int 0, .int 0, .int 0, .int 0, .int 0, .int 0])), (f2 32, .inr (0, [.int 0, .int 0, .int 0, .int 0, .int 0, .int 0, .int 0, .int 0])), (f2 33, .inr (0, [.int 0, .int 0, .int 0, .int 0, .int 0, .int 0, .int 0, .int 0])), (f2 34, .inr (0, [.int 0, .int 0, .int 0, .int 0, .int 0, .int 0, .int 0, .int 0])), (f2 35, .inr (0, [.int 0, .int 0, .int 0, .int 0, .int 0, .int 0, .int 0, .int 0])), (f2 36, .inr (0, [.int 0, .int 0, .int 0, .int 0, .int 0, .int 0, .int 0, .int 0])), (f2 9, .inl (k3, 8, .inr (.inr (.inr (.inr (rl [f2 11, f2 12, f2 13, f2 14, f2 15, f2 16, f2 17, f2 18])))))), (f2 10, .inl (k0, 10, .inr (.inr (.inr (.inr (rl [f2 27, f2 28, f2 29, f2 30, f2 31, f2 32, f2 33, f2 34, f2 35, f2 36])))))), (f2 1, .inr (1, [.ref (f2 9), .ref (f2 10), .int 0, .int 0, .int 0])), (f2 39, .inr (3, [.int 0, .int 0, .ref (f2 47), .int 0, .int 0, .int 0, .int 0, .int 0])), (f2 47, .inl (kJ, 80, .inr (.inl (fun _ => 0)))), (f2 40, .inr (3, [.int 0, .int 0, .ref (f2 48), .int 0, .int 0, .int 0, .int 0, .int 0])), (f2 48, .inl (kJ, 80, .inr (.inl (fun _ => 0)))), (f2 41, .inr (3, [.int 0, .int 0, .ref (f2 49), .int 0, .int 0, .int 0, .int 0, .int 0])), (f2 49, .inl (kJ, 80, .inr (.inl (fun _ => 0)))), (f2 42, .inr (3, [.int 0, .int 0, .ref (f2 50), .int 0, .int 0, .int 0, .int 0, .int 0])), (f2 50, .inl (kJ, 80, .inr (.inl (fun _ => 0)))), (f2 43, .inr (3, [.int 0, .int 0, .ref (f2 51), .int 0, .int 0, .int 0, .int 0, .int 0])), (f2 51, .inl (kJ, 80, .inr (.inl (fun _ => 0)))), (f2 44, .inr (3, [.int 0, .int 0, .ref (f2 52), .int 0, .int 0, .int 0, .int 0, .int 0])), (f2 52, .inl (kJ, 80, .inr (.inl (fun _ => 0)))), (f2 45, .inr (3, [.int 0, .int 0, .ref (f2 53), .int 0, .int 0, .int 0, .int 0, .int 0])), (f2 53, .inl (kJ, 80, .inr (.inl (fun _ => 0)))), (f2 46, .inr (3, [.int 0, .int 0, .ref (f2 54), .int 0, .int 0, .int 0, .int 0, .int 0])), (f2 54, .inl (kJ, 80, .inr (.inl (fun _ => 0)))), (f2 55, .inr (0, [.int 0, .int 0, .int 0, .int 0, .int 0, .int 0, .int 0, .int 0])), (f2 56, .inr (0, [.int 0, .int 0, .int 0, .int 0, .int 0, .int 0, .int 0, .int 0])), (f2 57, .inr (0, [.int 0, .int 0, .int 0, .int 0, .int 0, .int 0, .int 0, .int 0])), (f2 58, .inr (0, [.int 0, .int 0, .int 0, .int 0, .int 0, .int 0, .int 0, .int 0])), (f2 59, .inr (0, [.int 0, .int 0, .int 0, .int 0, .int 0, .int 0, .int 0, .int 0])), (f2 60, .inr (0, [.int 0, .int 0, .int 0, .int 0, .int 0, .int 0, .int 0, .int 0])), (f2 61, .inr (0, [.int 0, .int 0, .int 0, .int 0, .int 0, .int 0, .int 0, .int 0])), (f2 62, .inr (0, [.int 0, .int 0, .int 0, .int 0, .int 0, .int 0, .int 0, .int 0])), (f2 63, .inr (0, [.int 0, .int 0, .int 0, .int 0, .int 0, .int 0, .int 0, .int 0])), (f2 64, .inr (0, [.int 0, .int 0, .int 0, .int 0, .int 0, .int 0, .int 0, .int 0])), (f2 37, .inl (k3, 8, .inr (.inr (.inr (.inr (rl [f2 39, f2 40, f2 41, f2 42, f2 43, f2 44, f2 45, f2 46])))))), (f2 38, .inl (k0, 10, .inr (.inr (.inr (.inr (rl [f2 55, f2 56, f2 57, f2 58, f2 59, f2 60, f2 61, f2 62, f2 63, f2 64])))))), (f2 2, .inr (1, [.ref (f2 37), .ref (f2 38), .int 0, .int 0, .int 0])), (f2 3, .inr (4, [.ref (f2 0), .int 0, .int 0, .int 0, .int 0, .int 0])), (f2 66, .inr (3, [.int 0, .int 0, .ref (f2 76), .int 0, .int 0, .int 0, .int 0, .int 0])), (f2 76, .inl (kJ, 80, .inr (.inl (fun _ => 0)))), (f2 67, .inr (3, [.int 0, .int 0, .ref (f2 77), .int 0, .int 0, .int 0, .int 0, .int 0])), (f2 77, .inl (kJ, 80, .inr (.inl (fun _ => 0)))), (f2 68, .inr (3, [.int 0, .int 0, .ref (f2 78), .int 0, .int 0, .int 0, .int 0, .int 0])), (f2 78, .inl (kJ, 80, .inr (.inl (fun _ => 0)))), (f2 69, .inr (3, [.int 0, .int 0, .ref (f2 79), .int 0, .int 0, .int 0, .int 0, .int 0])), (f2 79, .inl (kJ, 80, .inr (.inl (fun _ => 0)))), (f2 70, .inr (3, [.int 0, .int 0, .ref (f2 80), .int 0, .int 0, .int 0, .int 0, .int 0])), (f2 80, .inl (kJ, 80, .inr (.inl (fun _ => 0)))), (f2 71, .inr (3, [.int 0, .int 0, .ref (f2 81), .int 0, .int 0, .int 0, .int 0, .int 0])), (f2 81, .inl (kJ, 80, .inr (.inl (fun _ => 0)))), (f2 72, .inr (3, [.int 0, .int 0, .ref (f2 82), .int 0, .int 0, .int 0, .int 0, .int 0])), (f2 82, .inl (kJ, 80, .inr (.inl (fun _ => 0)))), (f2 73, .inr (3, [.int 0, .int 0, .ref (f2 83), .int 0, .int 0, .int 0, .int 0, .int 0])), (f2 83, .inl (kJ, 80, .inr (.inl (fun _ => 0)))), (f2 74, .inr (3, [.int 0, .int 0, .ref (f2 84), .int 0, .int 0, .int 0, .int 0, .int 0])), (f2 84, .inl (kJ, 80, .inr (.inl (fun _ => 0)))), (f2 75, .inr (3, [.int 0, .int 0, .ref (f2 85), .int 0, .int 0, .int 0, .int 0, .int 0])), (f2 85, .inl (kJ, 80, .inr (.inl (fun _ => 0)))), (f2 65, .inl (k3, 10, .inr (.inr (.inr (.inr (rl [f2 66, f2 67, f2 68, f2 69, f2 70, f2 71, f2 72, f2 73, f2 74, f2 75])))))), (f2 4, .inr (5, [.ref (f2 1), .ref (f2 65), .int 0, .int (-1), .int 0, .int 0, .int 0, .int 0, .int 0])), (f2 5, .inr (3, [.int 0, .int 0, .ref (f2 86), .int 0, .int 0, .int 0, .int 0, .int 0])), (f2 86, .inl (kJ, 80, .inr (.inl (fun _ => 0)))), (f2 87, .inr (3, [.int 0, .int 0, .ref (f2 88), .int 0, .int 0, .int 0, .int 0, .int 0])), (f2 88, .inl (kJ, 80, .inr (.inl (fun _ => 0)))), (f2 89, .inl (kI, 4000, .inl (fun _ => 0))), (f2 6, .inr (2, [.ref (f2 87), .ref (f2 89), .int 0, .int 0, .int 0, .int 0, .int 0, .int 0])), (f2 7, .inl (k1, 10, .inr (.inr (.inr (.inr (fun _ => none)))))), (f2 8, .inl (k1, 2, .inr (.inr (.inr (.inr (fun _ => none)))))), (q1, .inr (6, [.ref (f2 0), .int 0, .ref (f2 1), .ref (f2 2), .ref (f2 3), .ref (f2 4), .ref (f2 5), .ref (f2 6), .ref (f2 7), .int 0, .int 0, .ref (f2 8)])), (q4, .inr (7, [.ref (f5 0), .ref (f5 1), .ref (f5 2), .ref (f5 3), .ref (f5 4), .ref (f5 5), .ref (f5 6), .ref (f5 7), .ref (f5 8), .ref (f5 9), .ref (f5 10), .int 0, .ref (f5 11), .int 0, .int 0, .int 0, .int 0, .ref (f5 12), .int 0, .ref (f5 13), .ref (f5 14), .ref (f5 15), .ref (f5 16), .int 0, .int 0, .ref (f5 17)]))]) [92, 93, 94, 95, 96, 97, 98, 99, 100, 101, 102, 103, 104, 105, 106, 107, 108, 109, 1, 5, 6, 7, 8, 9, 10, 11, 12, 13, 14, 15, 16, 17, 18, 19, 20, 21, 22, 23, 24, 25, 26, 27, 28, 29, 30, 3, 4, 2, 34, 35, 36, 37, 38, 39, 40, 41, 42, 43, 44, 45, 46, 47, 48, 49, 50, 51, 52, 53, 54, 55, 56, 57, 58, 59, 32, 33, 31, 60, 63, 64, 65, 66, 67, 68, 69, 70, 71, 72, 73, 74, 75, 76, 77, 78, 79, 80, 81, 82, 62, 61, 83, 84, 86, 87, 88, 85, 89, 90, 0, 91] (by decide) rfl
  have N0 : [f5 0, f5 1, f5 2, f5 3, f5 4, f5 5, f5 6, f5 7, f5 8, f5 9, f5 10, f5 11, f5 12, f5 13, f5 14, f5 15, f5 16, f5 17, f2 0, f2 11, f2 19, f2 12, f2 20, f2 13, f2 21, f2 14, f2 22, f2 15, f2 23, f2 16, f2 24, f2 17, f2 25, f2 18, f2 26, f2 27, f2 28, f2 29, f2 30, f2 31, f2 32, f2 33, f2 34, f2 35, f2 36, f2 9, f2 10, f2 1, f2 39, f2 47, f2 40, f2 48, f2 41, f2 49, f2 42, f2 50, f2 43, f2 51, f2 44, f2 52, f2 45, f2 53, f2 46, f2 54, f2 55, f2 56, f2 57, f2 58, f2 59, f2 60, f2 61, f2 62, f2 63, f2 64, f2 37, f2 38, f2 2, f2 3, f2 66, f2 76, f2 67, f2 77, f2 68, f2 78, f2 69, f2 79, f2 70, f2 80, f2 71, f2 81, f2 72, f2 82, f2 73, f2 83, f2 74, f2 84, f2 75, f2 85, f2 65, f2 4, f2 5, f2 86, f2 87, f2 88, f2 89, f2 6, f2 7, f2 8, q1, q4].Nodup := nd_of hD2
  have hne : ¬ q4 = q1 := last2 (show ([f5 0, f5 1, f5 2, f5 3, f5 4, f5 5, f5 6, f5 7, f5 8, f5 9, f5 10, f5 11, f5 12, f5 13, f5 14, f5 15, f5 16, f5 17, f2 0, f2 11, f2 19, f2 12, f2 20, f2 13, f2 21, f2 14, f2 22, f2 15, f2 23, f2 16, f2 24, f2 17, f2 25, f2 18, f2 26, f2 27, f2 28, f2 29, f2 30, f2 31, f2 32, f2 33, f2 34, f2 35, f2 36, f2 9, f2 10, f2 1, f2 39, f2 47, f2 40, f2 48, f2 41, f2 49, f2 42, f2 50, f2 43, f2 51, f2 44, f2 52, f2 45, f2 53, f2 46, f2 54, f2 55, f2 56, f2 57, f2 58, f2 59, f2 60, f2 61, f2 62, f2 63, f2 64, f2 37, f2 38, f2 2, f2 3, f2 66, f2 76, f2 67, f2 77, f2 68, f2 78, f2 69, f2 79, f2 70, f2 80, f2 71, f2 81, f2 72, f2 82, f2 73, f2 83, f2 74, f2 84, f2 75, f2 85, f2 65, f2 4, f2 5, f2 86, f2 87, f2 88, f2 89, f2 6, f2 7, f2 8] ++ [q1, q4]).Nodup from N0)
  have O0 : ∀ y ∈ [f5 0, f5 1, f5 2, f5 3, f5 4, f5 5, f5 6, f5 7, f5 8, f5 9, f5 10, f5 11, f5 12, f5 13, f5 14, f5 15, f5 16, f5 17, f2 0, f2 11, f2 19, f2 12, f2 20, f2 13, f2 21, f2 14, f2 22, f2 15, f2 23, f2 16, f2 24, f2 17, f2 25, f2 18, f2 26, f2 27, f2 28, f2 29, f2 30, f2 31, f2 32, f2 33, f2 34, f2 35, f2 36, f2 9, f2 10, f2 1, f2 39, f2 47, f2 40, f2 48, f2 41, f2 49, f2 42, f2 50, f2 43, f2 51, f2 44, f2 52, f2 45, f2 53, f2 46, f2 54, f2 55, f2 56, f2 57, f2 58, f2 59, f2 60, f2 61, f2 62, f2 63, f2 64, f2 37, f2 38, f2 2, f2 3, f2 66, f2 76, f2 67, f2 77, f2 68, f2 78, f2 69, f2 79, f2 70, f2 80, f2 71, f2 81, f2 72, f2 82, f2 73, f2 83, f2 74, f2 84, f2 75, f2 85, f2 65, f2 4, f2 5, f2 86, f2 87, f2 88, f2 89, f2 6, f2 7, f2 8, q1, q4], y ∉ ([] : List Nat) ∧ (fun q : Nat => s.heap.size ≤ q) y := fun y hy => ⟨List.not_mem_nil, inA hD2 hy⟩
  have hB9 : (999 : Int) ≤ 999 ∧ (999 : Int) ≤ 6000000 := ⟨by decide, by decide⟩
  have p0 := PO_0 (D := (dC, dI)) (cs := (csF kB kI kJ k3 k0 k1 kZ)) (A := (fun q : Nat => s.heap.size ≤ q)) (H := H) (aX := f2 0) (aM := f5 11) hne
  obtain ⟨P1, p1, e1, aq1, O1, N1, cc1⟩ := st1n (κ := 18) (g := 0) (fi := fun _ => 0) (fj := fun _ => 0) (fq := fun _ => none) p0 O0 N0 (by simp) (by simp) (hP.sub [92] rfl) rfl (okI_z hB9 18) trivial
  have at_f5_0 := aq1
  have ct_f5_0 := cc1
  obtain ⟨P2, p2, e2, aq2, O2, N2, cc2⟩ := st1n (κ := 28) (g := 0) (fi := fun _ => 0) (fj := fun _ => 0) (fq := fun _ => none) p1 O1 N1 (by simp) (by simp) (hP.sub [93] rfl) rfl (okI_z hB9 28) trivial
  have ct_f5_0 := e2.ct at_f5_0.1 ct_f5_0
  have at_f5_0 := e2.at at_f5_0
  have at_f5_1 := aq2
  obtain ⟨P3, p3, e3, aq3, O3, N3, cc3⟩ := st1n (κ := 30) (g := 0) (fi := fun _ => 0) (fj := fun _ => 0) (fq := fun _ => none) p2 O2 N2 (by simp) (by simp) (hP.sub [94] rfl) rfl (okI_z hB9 30) trivial
  have ct_f5_0 := e3.ct at_f5_0.1 ct_f5_0
  have at_f5_0 := e3.at at_f5_0
  have at_f5_1 := e3.at at_f5_1
  have at_f5_2 := aq3
  obtain ⟨P4, p4, e4, aq4, O4, N4, cc4⟩ := st1n (κ := 19) (g := 0) (fi := fun _ => 0) (fj := fun _ => 0) (fq := fun _ => none) p3 O3 N3 (by simp) (by simp) (hP.sub [95] rfl) rfl (okI_z hB9 19) trivial
  have ct_f5_0 := e4.ct at_f5_0.1 ct_f5_0
  have at_f5_0 := e4.at at_f5_0
  have at_f5_1 := e4.at at_f5_1
  have at_f5_2 := e4.at at_f5_2
  have at_f5_3 := aq4
  obtain ⟨P5, p5, e5, aq5, O5, N5, cc5⟩ := st1n (κ := 20) (g := 0) (fi := fun _ => 0) (fj := fun _ => 0) (fq := fun _ => none) p4 O4 N4 (by simp) (by simp) (hP.sub [96] rfl) rfl (okI_z hB9 20) trivial
  have ct_f5_0 := e5.ct at_f5_0.1 ct_f5_0
  have at_f5_0 := e5.at at_f5_0
  have at_f5_1 := e5.at at_f5_1
  have at_f5_2 := e5.at at_f5_2
  have at_f5_3 := e5.at at_f5_3
  have at_f5_4 := aq5
  obtain ⟨P6, p6, e6, aq6, O6, N6, cc6⟩ := st1n (κ := 21) (g := 0) (fi := fun _ => 0) (fj := fun _ => 0) (fq := fun _ => none) p5 O5 N5 (by simp) (by simp) (hP.sub [97] rfl) rfl (okI_z hB9 21) trivial
  have ct_f5_0 := e6.ct at_f5_0.1 ct_f5_0
  have at_f5_0 := e6.at at_f5_0
  have at_f5_1 := e6.at at_f5_1
  have at_f5_2 := e6.at at_f5_2
  have at_f5_3 := e6.at at_f5_3
  have at_f5_4 := e6.at at_f5_4
  have at_f5_5 := aq6
  obtain ⟨P7, p7, e7, aq7, O7, N7, cc7⟩ := st1n (κ := 32) (g := 0) (fi := fun _ => 0) (fj := fun _ => 0) (fq := fun _ => none) p6 O6 N6 (by simp) (by simp) (hP.sub [98] rfl) rfl (okI_z hB9 32) trivial
  have ct_f5_0 := e7.ct at_f5_0.1 ct_f5_0
  have at_f5_0 := e7.at at_f5_0
  have at_f5_1 := e7.at at_f5_1
  have at_f5_2 := e7.at at_f5_2
  have at_f5_3 := e7.at at_f5_3
  have at_f5_4 := e7.at at_f5_4
  have at_f5_5 := e7.at at_f5_5
  have at_f5_6 := aq7
  obtain ⟨P8, p8, e8, aq8, O8, N8, cc8⟩ := st1n (κ := 33) (g := 0) (fi := fun _ => 0) (fj := fun _ => 0) (fq := fun _ => none) p7 O7 N7 (by simp) (by simp) (hP.sub [99] rfl) rfl (okI_z hB9 33) trivial
  have ct_f5_0 := e8.ct at_f5_0.1 ct_f5_0
  have at_f5_0 := e8.at at_f5_0
  have at_f5_1 := e8.at at_f5_1
  have at_f5_2 := e8.at at_f5_2
  have at_f5_3 := e8.at at_f5_3
  have at_f5_4 := e8.at at_f5_4
  have at_f5_5 := e8.at at_f5_5
  have at_f5_6 := e8.at at_f5_6
  have at_f5_7 := aq8
  obtain ⟨P9, p9, e9, aq9, O9, N9, cc9⟩ := st1n (κ := 22) (g := 0) (fi := fun _ => 0) (fj := fun _ => 0) (fq := fun _ => none) p8 O8 N8 (by simp) (by simp) (hP.sub [100] rfl) rfl (okI_z hB9 22) trivial
  have ct_f5_0 := e9.ct at_f5_0.1 ct_f5_0
  have at_f5_0 := e9.at at_f5_0
  have at_f5_1 := e9.at at_f5_1
  have at_f5_2 := e9.at at_f5_2
  have at_f5_3 := e9.at at_f5_3
  have at_f5_4 := e9.at at_f5_4
  have at_f5_5 := e9.at at_f5_5
  have at_f5_6 := e9.at at_f5_6
  have at_f5_7 := e9.at at_f5_7
  have at_f5_8 := aq9
  obtain ⟨P10, p10, e10, aq10, O10, N10, cc10⟩ := st1n (κ := 23) (g := 0) (fi := fun _ => 0) (fj := fun _ => 0) (fq := fun _ => none) p9 O9 N9 (by simp) (by simp) (hP.sub [101] rfl) rfl (okI_z hB9 23) trivial
  have ct_f5_0 := e10.ct at_f5_0.1 ct_f5_0
  have at_f5_0 := e10.at at_f5_0
  have at_f5_1 := e10.at at_f5_1
  have at_f5_2 := e10.at at_f5_2
  have at_f5_3 := e10.at at_f5_3
  have at_f5_4 := e10.at at_f5_4
  have at_f5_5 := e10.at at_f5_5
  have at_f5_6 := e10.at at_f5_6
  have at_f5_7 := e10.at at_f5_7
  have at_f5_8 := e10.at at_f5_8
  have at_f5_9 := aq10
  obtain ⟨P11, p11, e11, aq11, O11, N11, cc11⟩ := st1n (κ := 24) (g := 0) (fi := fun _ => 0) (fj := fun _ => 0) (fq := fun _ => none) p10 O10 N10 (by simp) (by simp) (hP.sub [102] rfl) rfl (okI_z hB9 24) trivial
  have ct_f5_0 := e11.ct at_f5_0.1 ct_f5_0
  have at_f5_0 := e11.at at_f5_0
  have at_f5_1 := e11.at at_f5_1
  have at_f5_2 := e11.at at_f5_2
  have at_f5_3 := e11.at at_f5_3
  have at_f5_4 := e11.at at_f5_4
  have at_f5_5 := e11.at at_f5_5
  have at_f5_6 := e11.at at_f5_6
  have at_f5_7 := e11.at at_f5_7
  have at_f5_8 := e11.at at_f5_8
  have at_f5_9 := e11.at at_f5_9
  have at_f5_10 := aq11
  have ct_f5_10 := cc11
  obtain ⟨P12, p12, e12, aq12, O12, N12, cc12⟩ := st1n (κ := 31) (g := 0) (fi := fun _ => 0) (fj := fun _ => 0) (fq := fun _ => none) p11 O11 N11 (by simp) (by simp) (hP.sub [103] rfl) rfl (okI_z hB9 31) trivial (by intro h; exact absurd h (by decide)) (fun _ => ⟨rfl, rfl, fun _ => (show -128 ≤ (0 : Int32).toInt ∧ (0 : Int32).toInt ≤ 127 by decide +kernel)⟩)
  have ct_f5_0 := e12.ct at_f5_0.1 ct_f5_0
  have ct_f5_10 := e12.ct at_f5_10.1 ct_f5_10
  have at_f5_0 := e12.at at_f5_0
  have at_f5_1 := e12.at at_f5_1
  have at_f5_2 := e12.at at_f5_2
  have at_f5_3 := e12.at at_f5_3
  have at_f5_4 := e12.at at_f5_4
  have at_f5_5 := e12.at at_f5_5
  have at_f5_6 := e12.at at_f5_6
  have at_f5_7 := e12.at at_f5_7
  have at_f5_8 := e12.at at_f5_8
  have at_f5_9 := e12.at at_f5_9
  have at_f5_10 := e12.at at_f5_10
  have at_f5_11 := aq12
  obtain ⟨P13, p13, e13, aq13, O13, N13, cc13⟩ := st1n (κ := 25) (g := 0) (fi := fun _ => 0) (fj := fun _ => 0) (fq := fun _ => none) p12 O12 N12 (by simp) (by simp) (hP.sub [104] rfl) rfl (okI_z hB9 25) trivial
  have ct_f5_0 := e13.ct at_f5_0.1 ct_f5_0
  have ct_f5_10 := e13.ct at_f5_10.1 ct_f5_10
  have at_f5_0 := e13.at at_f5_0
  have at_f5_1 := e13.at at_f5_1
  have at_f5_2 := e13.at at_f5_2
  have at_f5_3 := e13.at at_f5_3
  have at_f5_4 := e13.at at_f5_4
  have at_f5_5 := e13.at at_f5_5
  have at_f5_6 := e13.at at_f5_6
  have at_f5_7 := e13.at at_f5_7
  have at_f5_8 := e13.at at_f5_8
  have at_f5_9 := e13.at at_f5_9
  have at_f5_10 := e13.at at_f5_10
  have at_f5_11 := e13.at at_f5_11
  have at_f5_12 := aq13
  obtain ⟨P14, p14, e14, aq14, O14, N14, cc14⟩ := st1n (κ := 34) (g := 0) (fi := fun _ => 0) (fj := fun _ => 0) (fq := fun _ => none) p13 O13 N13 (by simp) (by simp) (hP.sub [105] rfl) rfl (okI_z hB9 34) trivial
  have ct_f5_0 := e14.ct at_f5_0.1 ct_f5_0
  have ct_f5_10 := e14.ct at_f5_10.1 ct_f5_10
  have at_f5_0 := e14.at at_f5_0
  have at_f5_1 := e14.at at_f5_1
  have at_f5_2 := e14.at at_f5_2
  have at_f5_3 := e14.at at_f5_3
  have at_f5_4 := e14.at at_f5_4
  have at_f5_5 := e14.at at_f5_5
  have at_f5_6 := e14.at at_f5_6
  have at_f5_7 := e14.at at_f5_7
  have at_f5_8 := e14.at at_f5_8
  have at_f5_9 := e14.at at_f5_9
  have at_f5_10 := e14.at at_f5_10
  have at_f5_11 := e14.at at_f5_11
  have at_f5_12 := e14.at at_f5_12
  have at_f5_13 := aq14
  obtain ⟨P15, p15, e15, aq15, O15, N15, cc15⟩ := st1n (κ := 26) (g := 0) (fi := fun _ => 0) (fj := fun _ => 0) (fq := fun _ => none) p14 O14 N14 (by simp) (by simp) (hP.sub [106] rfl) rfl (okI_z hB9 26) trivial
  have ct_f5_0 := e15.ct at_f5_0.1 ct_f5_0
  have ct_f5_10 := e15.ct at_f5_10.1 ct_f5_10
  have at_f5_0 := e15.at at_f5_0
  have at_f5_1 := e15.at at_f5_1
  have at_f5_2 := e15.at at_f5_2
  have at_f5_3 := e15.at at_f5_3
  have at_f5_4 := e15.at at_f5_4
  have at_f5_5 := e15.at at_f5_5
  have at_f5_6 := e15.at at_f5_6
  have at_f5_7 := e15.at at_f5_7
  have at_f5_8 := e15.at at_f5_8
  have at_f5_9 := e15.at at_f5_9
  have at_f5_10 := e15.at at_f5_10
  have at_f5_11 := e15.at at_f5_11
  have at_f5_12 := e15.at at_f5_12
  have at_f5_13 := e15.at at_f5_13
  have at_f5_14 := aq15
  obtain ⟨P16, p16, e16, aq16, O16, N16, cc16⟩ := st1n (κ := 27) (g := 0) (fi := fun _ => 0) (fj := fun _ => 0) (fq := fun _ => none) p15 O15 N15 (by simp) (by simp) (hP.sub [107] rfl) rfl (okI_z hB9 27) trivial
  have ct_f5_0 := e16.ct at_f5_0.1 ct_f5_0
  have ct_f5_10 := e16.ct at_f5_10.1 ct_f5_10
  have at_f5_0 := e16.at at_f5_0
  have at_f5_1 := e16.at at_f5_1
  have at_f5_2 := e16.at at_f5_2
  have at_f5_3 := e16.at at_f5_3
  have at_f5_4 := e16.at at_f5_4
  have at_f5_5 := e16.at at_f5_5
  have at_f5_6 := e16.at at_f5_6
  have at_f5_7 := e16.at at_f5_7
  have at_f5_8 := e16.at at_f5_8
  have at_f5_9 := e16.at at_f5_9
  have at_f5_10 := e16.at at_f5_10
  have at_f5_11 := e16.at at_f5_11
  have at_f5_12 := e16.at at_f5_12
  have at_f5_13 := e16.at at_f5_13
  have at_f5_14 := e16.at at_f5_14
  have at_f5_15 := aq16
  obtain ⟨P17, p17, e17, aq17, O17, N17, cc17⟩ := st1n (κ := 11) (g := 0) (fi := fun _ => 0) (fj := fun _ => 0) (fq := fun _ => none) p16 O16 N16 (by simp) (by simp) (hP.sub [108] rfl) rfl (okI_z hB9 11) trivial
  have ct_f5_0 := e17.ct at_f5_0.1 ct_f5_0
  have ct_f5_10 := e17.ct at_f5_10.1 ct_f5_10
  have at_f5_0 := e17.at at_f5_0
  have at_f5_1 := e17.at at_f5_1
  have at_f5_2 := e17.at at_f5_2
  have at_f5_3 := e17.at at_f5_3
  have at_f5_4 := e17.at at_f5_4
  have at_f5_5 := e17.at at_f5_5
  have at_f5_6 := e17.at at_f5_6
  have at_f5_7 := e17.at at_f5_7
  have at_f5_8 := e17.at at_f5_8
  have at_f5_9 := e17.at at_f5_9
  have at_f5_10 := e17.at at_f5_10
  have at_f5_11 := e17.at at_f5_11
  have at_f5_12 := e17.at at_f5_12
  have at_f5_13 := e17.at at_f5_13
  have at_f5_14 := e17.at at_f5_14
  have at_f5_15 := e17.at at_f5_15
  have at_f5_16 := aq17
  obtain ⟨P18, p18, e18, aq18, O18, N18, cc18⟩ := st1n (κ := 29) (g := 0) (fi := fun _ => 0) (fj := fun _ => 0) (fq := fun _ => none) p17 O17 N17 (by simp) (by simp) (hP.sub [109] rfl) rfl (okI_z hB9 29) trivial
  have ct_f5_0 := e18.ct at_f5_0.1 ct_f5_0
  have ct_f5_10 := e18.ct at_f5_10.1 ct_f5_10
  have at_f5_0 := e18.at at_f5_0
  have at_f5_1 := e18.at at_f5_1
  have at_f5_2 := e18.at at_f5_2
  have at_f5_3 := e18.at at_f5_3
  have at_f5_4 := e18.at at_f5_4
  have at_f5_5 := e18.at at_f5_5
  have at_f5_6 := e18.at at_f5_6
  have at_f5_7 := e18.at at_f5_7
  have at_f5_8 := e18.at at_f5_8
  have at_f5_9 := e18.at at_f5_9
  have at_f5_10 := e18.at at_f5_10
  have at_f5_11 := e18.at at_f5_11
  have at_f5_12 := e18.at at_f5_12
  have at_f5_13 := e18.at at_f5_13
  have at_f5_14 := e18.at at_f5_14
  have at_f5_15 := e18.at at_f5_15
  have at_f5_16 := e18.at at_f5_16
  have at_f5_17 := aq18
  obtain ⟨P19, p19, e19, aq19, O19, N19, cc19⟩ := st1n (κ := 10) (g := 0) (fi := fun _ => 0) (fj := fun _ => 0) (fq := fun _ => none) p18 O18 N18 (by simp) (by simp) (hP.sub [1] rfl) rfl (okI_z hB9 10) trivial (fun _ => ⟨rfl, rfl, fun _ => (show -128 ≤ (0 : Int32).toInt ∧ (0 : Int32).toInt ≤ 127 by decide +kernel)⟩)
  have ct_f5_0 := e19.ct at_f5_0.1 ct_f5_0
  have ct_f5_10 := e19.ct at_f5_10.1 ct_f5_10
  have at_f5_0 := e19.at at_f5_0
  have at_f5_1 := e19.at at_f5_1
  have at_f5_2 := e19.at at_f5_2
  have at_f5_3 := e19.at at_f5_3
  have at_f5_4 := e19.at at_f5_4
  have at_f5_5 := e19.at at_f5_5
  have at_f5_6 := e19.at at_f5_6
  have at_f5_7 := e19.at at_f5_7
  have at_f5_8 := e19.at at_f5_8
  have at_f5_9 := e19.at at_f5_9
  have at_f5_10 := e19.at at_f5_10
  have at_f5_11 := e19.at at_f5_11
  have at_f5_12 := e19.at at_f5_12
  have at_f5_13 := e19.at at_f5_13
  have at_f5_14 := e19.at at_f5_14
  have at_f5_15 := e19.at at_f5_15
  have at_f5_16 := e19.at at_f5_16
  have at_f5_17 := e19.at at_f5_17
  have at_f2_0 := aq19
  obtain ⟨P20, p20, e20, aq20, O20, N20, cf20⟩ := stFd p19 1 (q := f2 1) (am := f2 9) (ab := f2 10) (ms := [(f2 11, f2 19), (f2 12, f2 20), (f2 13, f2 21), (f2 14, f2 22), (f2 15, f2 23), (f2 16, f2 24), (f2 17, f2 25), (f2 18, f2 26)]) (bs := [f2 27, f2 28, f2 29, f2 30, f2 31, f2 32, f2 33, f2 34, f2 35, f2 36]) rfl rfl (rest := [f2 39, f2 47, f2 40, f2 48, f2 41, f2 49, f2 42, f2 50, f2 43, f2 51, f2 44, f2 52, f2 45, f2 53, f2 46, f2 54, f2 55, f2 56, f2 57, f2 58, f2 59, f2 60, f2 61, f2 62, f2 63, f2 64, f2 37, f2 38, f2 2, f2 3, f2 66, f2 76, f2 67, f2 77, f2 68, f2 78, f2 69, f2 79, f2 70, f2 80, f2 71, f2 81, f2 72, f2 82, f2 73, f2 83, f2 74, f2 84, f2 75, f2 85, f2 65, f2 4, f2 5, f2 86, f2 87, f2 88, f2 89, f2 6, f2 7, f2 8, q1, q4]) O19 N19 (by simp) (by simp) (hP.sub [2] rfl) (hP.sub [3] rfl) (hP.sub [4] rfl) (by
    intro r hr
    simp only [List.mem_cons, List.not_mem_nil, or_false] at hr
    rcases hr with rfl | rfl | rfl | rfl | rfl | rfl | rfl | rfl
    · exact ⟨hP.sub [5] rfl, hP.sub [6] rfl⟩
    · exact ⟨hP.sub [7] rfl, hP.sub [8] rfl⟩
    · exact ⟨hP.sub [9] rfl, hP.sub [10] rfl⟩
    · exact ⟨hP.sub [11] rfl, hP.sub [12] rfl⟩
    · exact ⟨hP.sub [13] rfl, hP.sub [14] rfl⟩
    · exact ⟨hP.sub [15] rfl, hP.sub [16] rfl⟩
    · exact ⟨hP.sub [17] rfl, hP.sub [18] rfl⟩
    · exact ⟨hP.sub [19] rfl, hP.sub [20] rfl⟩) (by
    intro r hr
    simp only [List.mem_cons, List.not_mem_nil, or_false] at hr
    rcases hr with rfl | rfl | rfl | rfl | rfl | rfl | rfl | rfl | rfl | rfl
    · exact hP.sub [21] rfl
    · exact hP.sub [22] rfl
    · exact hP.sub [23] rfl
    · exact hP.sub [24] rfl
    · exact hP.sub [25] rfl
    · exact hP.sub [26] rfl
    · exact hP.sub [27] rfl
    · exact hP.sub [28] rfl
    · exact hP.sub [29] rfl
    · exact hP.sub [30] rfl)
  have ct_f5_0 := e20.ct at_f5_0.1 ct_f5_0
  have ct_f5_10 := e20.ct at_f5_10.1 ct_f5_10
  have at_f5_0 := e20.at at_f5_0
  have at_f5_1 := e20.at at_f5_1
  have at_f5_2 := e20.at at_f5_2
  have at_f5_3 := e20.at at_f5_3
  have at_f5_4 := e20.at at_f5_4
  have at_f5_5 := e20.at at_f5_5
  have at_f5_6 := e20.at at_f5_6
  have at_f5_7 := e20.at at_f5_7
  have at_f5_8 := e20.at at_f5_8
  have at_f5_9 := e20.at at_f5_9
  have at_f5_10 := e20.at at_f5_10
  have at_f5_11 := e20.at at_f5_11
  have at_f5_12 := e20.at at_f5_12
  have at_f5_13 := e20.at at_f5_13
  have at_f5_14 := e20.at at_f5_14
  have at_f5_15 := e20.at at_f5_15
  have at_f5_16 := e20.at at_f5_16
  have at_f5_17 := e20.at at_f5_17
  have at_f2_0 := e20.at at_f2_0
  have at_f2_1 := aq20
  have ci_f2_1 := cf20
  obtain ⟨P21, p21, e21, aq21, O21, N21, cf21⟩ := stFd p20 3 (q := f2 2) (am := f2 37) (ab := f2 38) (ms := [(f2 39, f2 47), (f2 40, f2 48), (f2 41, f2 49), (f2 42, f2 50), (f2 43, f2 51), (f2 44, f2 52), (f2 45, f2 53), (f2 46, f2 54)]) (bs := [f2 55, f2 56, f2 57, f2 58, f2 59, f2 60, f2 61, f2 62, f2 63, f2 64]) rfl rfl (rest := [f2 3, f2 66, f2 76, f2 67, f2 77, f2 68, f2 78, f2 69, f2 79, f2 70, f2 80, f2 71, f2 81, f2 72, f2 82, f2 73, f2 83, f2 74, f2 84, f2 75, f2 85, f2 65, f2 4, f2 5, f2 86, f2 87, f2 88, f2 89, f2 6, f2 7, f2 8, q1, q4]) O20 N20 (by simp) (by simp) (hP.sub [31] rfl) (hP.sub [32] rfl) (hP.sub [33] rfl) (by
    intro r hr
    simp only [List.mem_cons, List.not_mem_nil, or_false] at hr
    rcases hr with rfl | rfl | rfl | rfl | rfl | rfl | rfl | rfl
    · exact ⟨hP.sub [34] rfl, hP.sub [35] rfl⟩
    · exact ⟨hP.sub [36] rfl, hP.sub [37] rfl⟩
    · exact ⟨hP.sub [38] rfl, hP.sub [39] rfl⟩
    · exact ⟨hP.sub [40] rfl, hP.sub [41] rfl⟩
    · exact ⟨hP.sub [42] rfl, hP.sub [43] rfl⟩
    · exact ⟨hP.sub [44] rfl, hP.sub [45] rfl⟩
    · exact ⟨hP.sub [46] rfl, hP.sub [47] rfl⟩
    · exact ⟨hP.sub [48] rfl, hP.sub [49] rfl⟩) (by
    intro r hr
    simp only [List.mem_cons, List.not_mem_nil, or_false] at hr
    rcases hr with rfl | rfl | rfl | rfl | rfl | rfl | rfl | rfl | rfl | rfl
    · exact hP.sub [50] rfl
    · exact hP.sub [51] rfl
    · exact hP.sub [52] rfl
    · exact hP.sub [53] rfl
    · exact hP.sub [54] rfl
    · exact hP.sub [55] rfl
    · exact hP.sub [56] rfl
    · exact hP.sub [57] rfl
    · exact hP.sub [58] rfl
    · exact hP.sub [59] rfl)
  have ct_f5_0 := e21.ct at_f5_0.1 ct_f5_0
  have ct_f5_10 := e21.ct at_f5_10.1 ct_f5_10
  have ci_f2_1 := e21.ci at_f2_1.1 ci_f2_1
  have at_f5_0 := e21.at at_f5_0
  have at_f5_1 := e21.at at_f5_1
  have at_f5_2 := e21.at at_f5_2
  have at_f5_3 := e21.at at_f5_3
  have at_f5_4 := e21.at at_f5_4
  have at_f5_5 := e21.at at_f5_5
  have at_f5_6 := e21.at at_f5_6
  have at_f5_7 := e21.at at_f5_7
  have at_f5_8 := e21.at at_f5_8
  have at_f5_9 := e21.at at_f5_9
  have at_f5_10 := e21.at at_f5_10
  have at_f5_11 := e21.at at_f5_11
  have at_f5_12 := e21.at at_f5_12
  have at_f5_13 := e21.at at_f5_13
  have at_f5_14 := e21.at at_f5_14
  have at_f5_15 := e21.at at_f5_15
  have at_f5_16 := e21.at at_f5_16
  have at_f5_17 := e21.at at_f5_17
  have at_f2_0 := e21.at at_f2_0
  have at_f2_1 := e21.at at_f2_1
  have at_f2_2 := aq21
  obtain ⟨P22, p22, e22, aq22, O22, N22, cc22⟩ := st1n (κ := 4) (g := 0) (fi := fun _ => 0) (fj := fun _ => 0) (fq := fun k => if k = 0 then some (f2 0) else (none)) p21 O21 N21 (by simp) (by simp) (hP.sub [60] rfl) rfl (okI_z hB9 4) ⟨f2 0, rfl, at_f2_0.1, at_f2_0.2.1⟩
  have ct_f5_0 := e22.ct at_f5_0.1 ct_f5_0
  have ct_f5_10 := e22.ct at_f5_10.1 ct_f5_10
  have ci_f2_1 := e22.ci at_f2_1.1 ci_f2_1
  have at_f5_0 := e22.at at_f5_0
  have at_f5_1 := e22.at at_f5_1
  have at_f5_2 := e22.at at_f5_2
  have at_f5_3 := e22.at at_f5_3
  have at_f5_4 := e22.at at_f5_4
  have at_f5_5 := e22.at at_f5_5
  have at_f5_6 := e22.at at_f5_6
  have at_f5_7 := e22.at at_f5_7
  have at_f5_8 := e22.at at_f5_8
  have at_f5_9 := e22.at at_f5_9
  have at_f5_10 := e22.at at_f5_10
  have at_f5_11 := e22.at at_f5_11
  have at_f5_12 := e22.at at_f5_12
  have at_f5_13 := e22.at at_f5_13
  have at_f5_14 := e22.at at_f5_14
  have at_f5_15 := e22.at at_f5_15
  have at_f5_16 := e22.at at_f5_16
  have at_f5_17 := e22.at at_f5_17
  have at_f2_0 := e22.at at_f2_0
  have at_f2_1 := e22.at at_f2_1
  have at_f2_2 := e22.at at_f2_2
  have at_f2_3 := aq22
  have nd23 := fst_nd [(f2 66, f2 76), (f2 67, f2 77), (f2 68, f2 78), (f2 69, f2 79), (f2 70, f2 80), (f2 71, f2 81), (f2 72, f2 82), (f2 73, f2 83), (f2 74, f2 84), (f2 75, f2 85)] (List.nodup_append.mp (show ([(f2 66, f2 76), (f2 67, f2 77), (f2 68, f2 78), (f2 69, f2 79), (f2 70, f2 80), (f2 71, f2 81), (f2 72, f2 82), (f2 73, f2 83), (f2 74, f2 84), (f2 75, f2 85)].flatMap (fun q => [q.1, q.2]) ++ [f2 65, f2 4, f2 5, f2 86, f2 87, f2 88, f2 89, f2 6, f2 7, f2 8, q1, q4]).Nodup from N22)).1
  obtain ⟨P23, p23, e23, aq23, O23, N23⟩ := stMs p22 (100 * 2) [(f2 66, f2 76), (f2 67, f2 77), (f2 68, f2 78), (f2 69, f2 79), (f2 70, f2 80), (f2 71, f2 81), (f2 72, f2 82), (f2 73, f2 83), (f2 74, f2 84), (f2 75, f2 85)] (rest := [f2 65, f2 4, f2 5, f2 86, f2 87, f2 88, f2 89, f2 6, f2 7, f2 8, q1, q4]) O22 N22 (by simp) (by simp) (by
    intro r hr
    simp only [List.mem_cons, List.not_mem_nil, or_false] at hr
    rcases hr with rfl | rfl | rfl | rfl | rfl | rfl | rfl | rfl | rfl | rfl
    · exact ⟨hP.sub [63] rfl, hP.sub [64] rfl⟩
    · exact ⟨hP.sub [65] rfl, hP.sub [66] rfl⟩
    · exact ⟨hP.sub [67] rfl, hP.sub [68] rfl⟩
    · exact ⟨hP.sub [69] rfl, hP.sub [70] rfl⟩
    · exact ⟨hP.sub [71] rfl, hP.sub [72] rfl⟩
    · exact ⟨hP.sub [73] rfl, hP.sub [74] rfl⟩
    · exact ⟨hP.sub [75] rfl, hP.sub [76] rfl⟩
    · exact ⟨hP.sub [77] rfl, hP.sub [78] rfl⟩
    · exact ⟨hP.sub [79] rfl, hP.sub [80] rfl⟩
    · exact ⟨hP.sub [81] rfl, hP.sub [82] rfl⟩)
  have ct_f5_0 := e23.ct at_f5_0.1 ct_f5_0
  have ct_f5_10 := e23.ct at_f5_10.1 ct_f5_10
  have ci_f2_1 := e23.ci at_f2_1.1 ci_f2_1
  have at_f5_0 := e23.at at_f5_0
  have at_f5_1 := e23.at at_f5_1
  have at_f5_2 := e23.at at_f5_2
  have at_f5_3 := e23.at at_f5_3
  have at_f5_4 := e23.at at_f5_4
  have at_f5_5 := e23.at at_f5_5
  have at_f5_6 := e23.at at_f5_6
  have at_f5_7 := e23.at at_f5_7
  have at_f5_8 := e23.at at_f5_8
  have at_f5_9 := e23.at at_f5_9
  have at_f5_10 := e23.at at_f5_10
  have at_f5_11 := e23.at at_f5_11
  have at_f5_12 := e23.at at_f5_12
  have at_f5_13 := e23.at at_f5_13
  have at_f5_14 := e23.at at_f5_14
  have at_f5_15 := e23.at at_f5_15
  have at_f5_16 := e23.at at_f5_16
  have at_f5_17 := e23.at at_f5_17
  have at_f2_0 := e23.at at_f2_0
  have at_f2_1 := e23.at at_f2_1
  have at_f2_2 := e23.at at_f2_2
  have at_f2_3 := e23.at at_f2_3
  obtain ⟨P24, p24, e24, aq24, O24, N24, cc24⟩ := st1n (κ := 15) (g := 2) (fi := fun _ => 0) (fj := fun _ => 0) (fq := rl ([(f2 66, f2 76), (f2 67, f2 77), (f2 68, f2 78), (f2 69, f2 79), (f2 70, f2 80), (f2 71, f2 81), (f2 72, f2 82), (f2 73, f2 83), (f2 74, f2 84), (f2 75, f2 85)].map Prod.fst)) p23 O23 N23 (by simp) (by simp) (hP.sub [62] rfl) rfl (okI_z hB9 15) ⟨rl_ix (P := P23) (ms := [(f2 66, f2 76), (f2 67, f2 77), (f2 68, f2 78), (f2 69, f2 79), (f2 70, f2 80), (f2 71, f2 81), (f2 72, f2 82), (f2 73, f2 83), (f2 74, f2 84), (f2 75, f2 85)]) (κ := 3) (g := 100 * 2) rfl aq23, rl_inj rfl nd23⟩
  have ct_f5_0 := e24.ct at_f5_0.1 ct_f5_0
  have ct_f5_10 := e24.ct at_f5_10.1 ct_f5_10
  have ci_f2_1 := e24.ci at_f2_1.1 ci_f2_1
  have at_f5_0 := e24.at at_f5_0
  have at_f5_1 := e24.at at_f5_1
  have at_f5_2 := e24.at at_f5_2
  have at_f5_3 := e24.at at_f5_3
  have at_f5_4 := e24.at at_f5_4
  have at_f5_5 := e24.at at_f5_5
  have at_f5_6 := e24.at at_f5_6
  have at_f5_7 := e24.at at_f5_7
  have at_f5_8 := e24.at at_f5_8
  have at_f5_9 := e24.at at_f5_9
  have at_f5_10 := e24.at at_f5_10
  have at_f5_11 := e24.at at_f5_11
  have at_f5_12 := e24.at at_f5_12
  have at_f5_13 := e24.at at_f5_13
  have at_f5_14 := e24.at at_f5_14
  have at_f5_15 := e24.at at_f5_15
  have at_f5_16 := e24.at at_f5_16
  have at_f5_17 := e24.at at_f5_17
  have at_f2_0 := e24.at at_f2_0
  have at_f2_1 := e24.at at_f2_1
  have at_f2_2 := e24.at at_f2_2
  have at_f2_3 := e24.at at_f2_3
  have at_f2_65 := aq24
  obtain ⟨P25, p25, e25, aq25, O25, N25, cc25⟩ := st1n (κ := 5) (g := 1) (fi := fun k => if k = 3 then -1 else 0) (fj := fun _ => 0) (fq := fun k => if k = 0 then some (f2 1) else (if k = 1 then some (f2 65) else (none))) p24 O24 N24 (by simp) (by simp) (hP.sub [61] rfl) rfl ((show bI (fun k => if k = 3 then (-1 : Int32) else 0) 2 0 300 from ⟨by decide +kernel, by decide +kernel⟩)) ⟨⟨f2 1, rfl, at_f2_1.1, at_f2_1.2.1, at_f2_1.2.2⟩, ⟨f2 65, rfl, at_f2_65.1, at_f2_65.2.1, at_f2_65.2.2⟩⟩
  have ct_f5_0 := e25.ct at_f5_0.1 ct_f5_0
  have ct_f5_10 := e25.ct at_f5_10.1 ct_f5_10
  have ci_f2_1 := e25.ci at_f2_1.1 ci_f2_1
  have at_f5_0 := e25.at at_f5_0
  have at_f5_1 := e25.at at_f5_1
  have at_f5_2 := e25.at at_f5_2
  have at_f5_3 := e25.at at_f5_3
  have at_f5_4 := e25.at at_f5_4
  have at_f5_5 := e25.at at_f5_5
  have at_f5_6 := e25.at at_f5_6
  have at_f5_7 := e25.at at_f5_7
  have at_f5_8 := e25.at at_f5_8
  have at_f5_9 := e25.at at_f5_9
  have at_f5_10 := e25.at at_f5_10
  have at_f5_11 := e25.at at_f5_11
  have at_f5_12 := e25.at at_f5_12
  have at_f5_13 := e25.at at_f5_13
  have at_f5_14 := e25.at at_f5_14
  have at_f5_15 := e25.at at_f5_15
  have at_f5_16 := e25.at at_f5_16
  have at_f5_17 := e25.at at_f5_17
  have at_f2_0 := e25.at at_f2_0
  have at_f2_1 := e25.at at_f2_1
  have at_f2_2 := e25.at at_f2_2
  have at_f2_3 := e25.at at_f2_3
  have at_f2_65 := e25.at at_f2_65
  have at_f2_4 := aq25
  have ct_f2_4 := cc25
  have nd26 := fst_nd [(f2 5, f2 86)] (List.nodup_append.mp (show ([(f2 5, f2 86)].flatMap (fun q => [q.1, q.2]) ++ [f2 87, f2 88, f2 89, f2 6, f2 7, f2 8, q1, q4]).Nodup from N25)).1
  obtain ⟨P26, p26, e26, aq26, O26, N26⟩ := stMs p25 400 [(f2 5, f2 86)] (rest := [f2 87, f2 88, f2 89, f2 6, f2 7, f2 8, q1, q4]) O25 N25 (by simp) (by simp) (by
    intro r hr
    simp only [List.mem_cons, List.not_mem_nil, or_false] at hr
    subst hr
    exact ⟨hP.sub [83] rfl, hP.sub [84] rfl⟩)
  have ct_f5_0 := e26.ct at_f5_0.1 ct_f5_0
  have ct_f5_10 := e26.ct at_f5_10.1 ct_f5_10
  have ct_f2_4 := e26.ct at_f2_4.1 ct_f2_4
  have ci_f2_1 := e26.ci at_f2_1.1 ci_f2_1
  have at_f5_0 := e26.at at_f5_0
  have at_f5_1 := e26.at at_f5_1
  have at_f5_2 := e26.at at_f5_2
  have at_f5_3 := e26.at at_f5_3
  have at_f5_4 := e26.at at_f5_4
  have at_f5_5 := e26.at at_f5_5
  have at_f5_6 := e26.at at_f5_6
  have at_f5_7 := e26.at at_f5_7
  have at_f5_8 := e26.at at_f5_8
  have at_f5_9 := e26.at at_f5_9
  have at_f5_10 := e26.at at_f5_10
  have at_f5_11 := e26.at at_f5_11
  have at_f5_12 := e26.at at_f5_12
  have at_f5_13 := e26.at at_f5_13
  have at_f5_14 := e26.at at_f5_14
  have at_f5_15 := e26.at at_f5_15
  have at_f5_16 := e26.at at_f5_16
  have at_f5_17 := e26.at at_f5_17
  have at_f2_0 := e26.at at_f2_0
  have at_f2_1 := e26.at at_f2_1
  have at_f2_2 := e26.at at_f2_2
  have at_f2_3 := e26.at at_f2_3
  have at_f2_65 := e26.at at_f2_65
  have at_f2_4 := e26.at at_f2_4
  have at_f2_5 := aq26 0 _ rfl
  have nd27 := fst_nd [(f2 87, f2 88)] (List.nodup_append.mp (show ([(f2 87, f2 88)].flatMap (fun q => [q.1, q.2]) ++ [f2 89, f2 6, f2 7, f2 8, q1, q4]).Nodup from N26)).1
  obtain ⟨P27, p27, e27, aq27, O27, N27⟩ := stMs p26 401 [(f2 87, f2 88)] (rest := [f2 89, f2 6, f2 7, f2 8, q1, q4]) O26 N26 (by simp) (by simp) (by
    intro r hr
    simp only [List.mem_cons, List.not_mem_nil, or_false] at hr
    subst hr
    exact ⟨hP.sub [86] rfl, hP.sub [87] rfl⟩)
  have ct_f5_0 := e27.ct at_f5_0.1 ct_f5_0
  have ct_f5_10 := e27.ct at_f5_10.1 ct_f5_10
  have ct_f2_4 := e27.ct at_f2_4.1 ct_f2_4
  have ci_f2_1 := e27.ci at_f2_1.1 ci_f2_1
  have at_f5_0 := e27.at at_f5_0
  have at_f5_1 := e27.at at_f5_1
  have at_f5_2 := e27.at at_f5_2
  have at_f5_3 := e27.at at_f5_3
  have at_f5_4 := e27.at at_f5_4
  have at_f5_5 := e27.at at_f5_5
  have at_f5_6 := e27.at at_f5_6
  have at_f5_7 := e27.at at_f5_7
  have at_f5_8 := e27.at at_f5_8
  have at_f5_9 := e27.at at_f5_9
  have at_f5_10 := e27.at at_f5_10
  have at_f5_11 := e27.at at_f5_11
  have at_f5_12 := e27.at at_f5_12
  have at_f5_13 := e27.at at_f5_13
  have at_f5_14 := e27.at at_f5_14
  have at_f5_15 := e27.at at_f5_15
  have at_f5_16 := e27.at at_f5_16
  have at_f5_17 := e27.at at_f5_17
  have at_f2_0 := e27.at at_f2_0
  have at_f2_1 := e27.at at_f2_1
  have at_f2_2 := e27.at at_f2_2
  have at_f2_3 := e27.at at_f2_3
  have at_f2_65 := e27.at at_f2_65
  have at_f2_4 := e27.at at_f2_4
  have at_f2_5 := e27.at at_f2_5
  have at_f2_87 := aq27 0 _ rfl
  obtain ⟨P28, p28, e28, aq28, O28, N28, cc28⟩ := st1n (κ := 11) (g := 0) (fi := fun _ => 0) (fj := fun _ => 0) (fq := fun _ => none) p27 O27 N27 (by simp) (by simp) (hP.sub [88] rfl) rfl (okI_z hB9 11) trivial
  have ct_f5_0 := e28.ct at_f5_0.1 ct_f5_0
  have ct_f5_10 := e28.ct at_f5_10.1 ct_f5_10
  have ct_f2_4 := e28.ct at_f2_4.1 ct_f2_4
  have ci_f2_1 := e28.ci at_f2_1.1 ci_f2_1
  have at_f5_0 := e28.at at_f5_0
  have at_f5_1 := e28.at at_f5_1
  have at_f5_2 := e28.at at_f5_2
  have at_f5_3 := e28.at at_f5_3
  have at_f5_4 := e28.at at_f5_4
  have at_f5_5 := e28.at at_f5_5
  have at_f5_6 := e28.at at_f5_6
  have at_f5_7 := e28.at at_f5_7
  have at_f5_8 := e28.at at_f5_8
  have at_f5_9 := e28.at at_f5_9
  have at_f5_10 := e28.at at_f5_10
  have at_f5_11 := e28.at at_f5_11
  have at_f5_12 := e28.at at_f5_12
  have at_f5_13 := e28.at at_f5_13
  have at_f5_14 := e28.at at_f5_14
  have at_f5_15 := e28.at at_f5_15
  have at_f5_16 := e28.at at_f5_16
  have at_f5_17 := e28.at at_f5_17
  have at_f2_0 := e28.at at_f2_0
  have at_f2_1 := e28.at at_f2_1
  have at_f2_2 := e28.at at_f2_2
  have at_f2_3 := e28.at at_f2_3
  have at_f2_65 := e28.at at_f2_65
  have at_f2_4 := e28.at at_f2_4
  have at_f2_5 := e28.at at_f2_5
  have at_f2_87 := e28.at at_f2_87
  have at_f2_89 := aq28
  obtain ⟨P29, p29, e29, aq29, O29, N29, cc29⟩ := st1n (κ := 2) (g := 0) (fi := fun _ => 0) (fj := fun _ => 0) (fq := fun k => if k = 0 then some (f2 87) else (if k = 1 then some (f2 89) else (none))) p28 O28 N28 (by simp) (by simp) (hP.sub [85] rfl) rfl (okI_z hB9 2) ⟨⟨f2 87, rfl, at_f2_87.1, at_f2_87.2.1, at_f2_87.2.2⟩, ⟨f2 89, rfl, at_f2_89.1, at_f2_89.2.1⟩⟩
  have ct_f5_0 := e29.ct at_f5_0.1 ct_f5_0
  have ct_f5_10 := e29.ct at_f5_10.1 ct_f5_10
  have ct_f2_4 := e29.ct at_f2_4.1 ct_f2_4
  have ci_f2_1 := e29.ci at_f2_1.1 ci_f2_1
  have at_f5_0 := e29.at at_f5_0
  have at_f5_1 := e29.at at_f5_1
  have at_f5_2 := e29.at at_f5_2
  have at_f5_3 := e29.at at_f5_3
  have at_f5_4 := e29.at at_f5_4
  have at_f5_5 := e29.at at_f5_5
  have at_f5_6 := e29.at at_f5_6
  have at_f5_7 := e29.at at_f5_7
  have at_f5_8 := e29.at at_f5_8
  have at_f5_9 := e29.at at_f5_9
  have at_f5_10 := e29.at at_f5_10
  have at_f5_11 := e29.at at_f5_11
  have at_f5_12 := e29.at at_f5_12
  have at_f5_13 := e29.at at_f5_13
  have at_f5_14 := e29.at at_f5_14
  have at_f5_15 := e29.at at_f5_15
  have at_f5_16 := e29.at at_f5_16
  have at_f5_17 := e29.at at_f5_17
  have at_f2_0 := e29.at at_f2_0
  have at_f2_1 := e29.at at_f2_1
  have at_f2_2 := e29.at at_f2_2
  have at_f2_3 := e29.at at_f2_3
  have at_f2_65 := e29.at at_f2_65
  have at_f2_4 := e29.at at_f2_4
  have at_f2_5 := e29.at at_f2_5
  have at_f2_87 := e29.at at_f2_87
  have at_f2_89 := e29.at at_f2_89
  have at_f2_6 := aq29
  obtain ⟨P30, p30, e30, aq30, O30, N30, cc30⟩ := st1n (κ := 16) (g := 0) (fi := fun _ => 0) (fj := fun _ => 0) (fq := fun _ => none) p29 O29 N29 (by simp) (by simp) (hP.sub [89] rfl) rfl (okI_z hB9 16) (fun i hi => Or.inl rfl)
  have ct_f5_0 := e30.ct at_f5_0.1 ct_f5_0
  have ct_f5_10 := e30.ct at_f5_10.1 ct_f5_10
  have ct_f2_4 := e30.ct at_f2_4.1 ct_f2_4
  have ci_f2_1 := e30.ci at_f2_1.1 ci_f2_1
  have at_f5_0 := e30.at at_f5_0
  have at_f5_1 := e30.at at_f5_1
  have at_f5_2 := e30.at at_f5_2
  have at_f5_3 := e30.at at_f5_3
  have at_f5_4 := e30.at at_f5_4
  have at_f5_5 := e30.at at_f5_5
  have at_f5_6 := e30.at at_f5_6
  have at_f5_7 := e30.at at_f5_7
  have at_f5_8 := e30.at at_f5_8
  have at_f5_9 := e30.at at_f5_9
  have at_f5_10 := e30.at at_f5_10
  have at_f5_11 := e30.at at_f5_11
  have at_f5_12 := e30.at at_f5_12
  have at_f5_13 := e30.at at_f5_13
  have at_f5_14 := e30.at at_f5_14
  have at_f5_15 := e30.at at_f5_15
  have at_f5_16 := e30.at at_f5_16
  have at_f5_17 := e30.at at_f5_17
  have at_f2_0 := e30.at at_f2_0
  have at_f2_1 := e30.at at_f2_1
  have at_f2_2 := e30.at at_f2_2
  have at_f2_3 := e30.at at_f2_3
  have at_f2_65 := e30.at at_f2_65
  have at_f2_4 := e30.at at_f2_4
  have at_f2_5 := e30.at at_f2_5
  have at_f2_87 := e30.at at_f2_87
  have at_f2_89 := e30.at at_f2_89
  have at_f2_6 := e30.at at_f2_6
  have at_f2_7 := aq30
  obtain ⟨P31, p31, e31, aq31, O31, N31, cc31⟩ := st1n (κ := 17) (g := 0) (fi := fun _ => 0) (fj := fun _ => 0) (fq := fun _ => none) p30 O30 N30 (by simp) (by simp) (hP.sub [90] rfl) rfl (okI_z hB9 17) (fun i hi => Or.inl rfl)
  have ct_f5_0 := e31.ct at_f5_0.1 ct_f5_0
  have ct_f5_10 := e31.ct at_f5_10.1 ct_f5_10
  have ct_f2_4 := e31.ct at_f2_4.1 ct_f2_4
  have ci_f2_1 := e31.ci at_f2_1.1 ci_f2_1
  have at_f5_0 := e31.at at_f5_0
  have at_f5_1 := e31.at at_f5_1
  have at_f5_2 := e31.at at_f5_2
  have at_f5_3 := e31.at at_f5_3
  have at_f5_4 := e31.at at_f5_4
  have at_f5_5 := e31.at at_f5_5
  have at_f5_6 := e31.at at_f5_6
  have at_f5_7 := e31.at at_f5_7
  have at_f5_8 := e31.at at_f5_8
  have at_f5_9 := e31.at at_f5_9
  have at_f5_10 := e31.at at_f5_10
  have at_f5_11 := e31.at at_f5_11
  have at_f5_12 := e31.at at_f5_12
  have at_f5_13 := e31.at at_f5_13
  have at_f5_14 := e31.at at_f5_14
  have at_f5_15 := e31.at at_f5_15
  have at_f5_16 := e31.at at_f5_16
  have at_f5_17 := e31.at at_f5_17
  have at_f2_0 := e31.at at_f2_0
  have at_f2_1 := e31.at at_f2_1
  have at_f2_2 := e31.at at_f2_2
  have at_f2_3 := e31.at at_f2_3
  have at_f2_65 := e31.at at_f2_65
  have at_f2_4 := e31.at at_f2_4
  have at_f2_5 := e31.at at_f2_5
  have at_f2_87 := e31.at at_f2_87
  have at_f2_89 := e31.at at_f2_89
  have at_f2_6 := e31.at at_f2_6
  have at_f2_7 := e31.at at_f2_7
  have at_f2_8 := aq31
  have ct_f2_8 := cc31
  obtain ⟨P32, p32, e32, aq32, O32, N32, cc32⟩ := st1 (κ := 6) (g := 0) (fi := fun _ => 0) (fj := fun _ => 0) (fq := fun k => if k = 0 then some (f2 0) else (if k = 2 then some (f2 1) else (if k = 3 then some (f2 2) else (if k = 4 then some (f2 3) else (if k = 5 then some (f2 4) else (if k = 6 then some (f2 5) else (if k = 7 then some (f2 6) else (if k = 8 then some (f2 7) else (if k = 11 then some (f2 8) else (none)))))))))) p31 O31 N31 (hP.sub [0] rfl) rfl (okI_z hB9 6) ⟨⟨f2 0, rfl, at_f2_0.1, at_f2_0.2.1⟩, ⟨f2 1, rfl, at_f2_1.1, at_f2_1.2.1, at_f2_1.2.2⟩, ⟨f2 2, rfl, at_f2_2.1, at_f2_2.2.1, at_f2_2.2.2⟩, ⟨f2 3, rfl, at_f2_3.1, at_f2_3.2.1⟩, ⟨f2 4, rfl, at_f2_4.1, at_f2_4.2.1, at_f2_4.2.2⟩, ⟨f2 5, rfl, at_f2_5.1, at_f2_5.2.1, at_f2_5.2.2⟩, ⟨f2 6, rfl, at_f2_6.1, at_f2_6.2.1⟩, ⟨f2 7, rfl, at_f2_7.1, at_f2_7.2.1⟩, ⟨f2 8, rfl, at_f2_8.1, at_f2_8.2.1⟩⟩ (fun _ => ⟨rfl, rfl⟩) (fun z => absurd z.symm hne)
  have ct_f5_0 := e32.ct at_f5_0.1 ct_f5_0
  have ct_f5_10 := e32.ct at_f5_10.1 ct_f5_10
  have ct_f2_4 := e32.ct at_f2_4.1 ct_f2_4
  have ct_f2_8 := e32.ct at_f2_8.1 ct_f2_8
  have ci_f2_1 := e32.ci at_f2_1.1 ci_f2_1
  have at_f5_0 := e32.at at_f5_0
  have at_f5_1 := e32.at at_f5_1
  have at_f5_2 := e32.at at_f5_2
  have at_f5_3 := e32.at at_f5_3
  have at_f5_4 := e32.at at_f5_4
  have at_f5_5 := e32.at at_f5_5
  have at_f5_6 := e32.at at_f5_6
  have at_f5_7 := e32.at at_f5_7
  have at_f5_8 := e32.at at_f5_8
  have at_f5_9 := e32.at at_f5_9
  have at_f5_10 := e32.at at_f5_10
  have at_f5_11 := e32.at at_f5_11
  have at_f5_12 := e32.at at_f5_12
  have at_f5_13 := e32.at at_f5_13
  have at_f5_14 := e32.at at_f5_14
  have at_f5_15 := e32.at at_f5_15
  have at_f5_16 := e32.at at_f5_16
  have at_f5_17 := e32.at at_f5_17
  have at_f2_0 := e32.at at_f2_0
  have at_f2_1 := e32.at at_f2_1
  have at_f2_2 := e32.at at_f2_2
  have at_f2_3 := e32.at at_f2_3
  have at_f2_65 := e32.at at_f2_65
  have at_f2_4 := e32.at at_f2_4
  have at_f2_5 := e32.at at_f2_5
  have at_f2_87 := e32.at at_f2_87
  have at_f2_89 := e32.at at_f2_89
  have at_f2_6 := e32.at at_f2_6
  have at_f2_7 := e32.at at_f2_7
  have at_f2_8 := e32.at at_f2_8
  have at_q1 := aq32
  have ct_q1 := cc32
  obtain ⟨P33, p33, e33, aq33, O33, N33, cc33⟩ := st1 (κ := 7) (g := 0) (fi := fun _ => 0) (fj := fun _ => 0) (fq := fun k => if k = 0 then some (f5 0) else (if k = 1 then some (f5 1) else (if k = 2 then some (f5 2) else (if k = 3 then some (f5 3) else (if k = 4 then some (f5 4) else (if k = 5 then some (f5 5) else (if k = 6 then some (f5 6) else (if k = 7 then some (f5 7) else (if k = 8 then some (f5 8) else (if k = 9 then some (f5 9) else (if k = 10 then some (f5 10) else (if k = 12 then some (f5 11) else (if k = 17 then some (f5 12) else (if k = 19 then some (f5 13) else (if k = 20 then some (f5 14) else (if k = 21 then some (f5 15) else (if k = 22 then some (f5 16) else (if k = 25 then some (f5 17) else (none))))))))))))))))))) p32 O32 N32 (hP.sub [91] rfl) rfl (okI_z hB9 7) ⟨⟨f5 0, rfl, at_f5_0.1, at_f5_0.2.1⟩, ⟨f5 1, rfl, at_f5_1.1, at_f5_1.2.1⟩, ⟨f5 2, rfl, at_f5_2.1, at_f5_2.2.1⟩, ⟨f5 3, rfl, at_f5_3.1, at_f5_3.2.1⟩, ⟨f5 4, rfl, at_f5_4.1, at_f5_4.2.1⟩, ⟨f5 5, rfl, at_f5_5.1, at_f5_5.2.1⟩, ⟨f5 6, rfl, at_f5_6.1, at_f5_6.2.1⟩, ⟨f5 7, rfl, at_f5_7.1, at_f5_7.2.1⟩, ⟨f5 8, rfl, at_f5_8.1, at_f5_8.2.1⟩, ⟨f5 9, rfl, at_f5_9.1, at_f5_9.2.1⟩, ⟨f5 10, rfl, at_f5_10.1, at_f5_10.2.1⟩, ⟨f5 11, rfl, at_f5_11.1, at_f5_11.2.1⟩, ⟨f5 12, rfl, at_f5_12.1, at_f5_12.2.1⟩, ⟨f5 13, rfl, at_f5_13.1, at_f5_13.2.1⟩, ⟨f5 14, rfl, at_f5_14.1, at_f5_14.2.1⟩, ⟨f5 15, rfl, at_f5_15.1, at_f5_15.2.1⟩, ⟨f5 16, rfl, at_f5_16.1, at_f5_16.2.1⟩, ⟨f5 17, rfl, at_f5_17.1, at_f5_17.2.1⟩⟩ (fun z => absurd z hne) (fun _ => ⟨rfl, rfl⟩)
  have ct_f5_0 := e33.ct at_f5_0.1 ct_f5_0
  have ct_f5_10 := e33.ct at_f5_10.1 ct_f5_10
  have ct_f2_4 := e33.ct at_f2_4.1 ct_f2_4
  have ct_f2_8 := e33.ct at_f2_8.1 ct_f2_8
  have ct_q1 := e33.ct at_q1.1 ct_q1
  have ci_f2_1 := e33.ci at_f2_1.1 ci_f2_1
  have at_f5_0 := e33.at at_f5_0
  have at_f5_1 := e33.at at_f5_1
  have at_f5_2 := e33.at at_f5_2
  have at_f5_3 := e33.at at_f5_3
  have at_f5_4 := e33.at at_f5_4
  have at_f5_5 := e33.at at_f5_5
  have at_f5_6 := e33.at at_f5_6
  have at_f5_7 := e33.at at_f5_7
  have at_f5_8 := e33.at at_f5_8
  have at_f5_9 := e33.at at_f5_9
  have at_f5_10 := e33.at at_f5_10
  have at_f5_11 := e33.at at_f5_11
  have at_f5_12 := e33.at at_f5_12
  have at_f5_13 := e33.at at_f5_13
  have at_f5_14 := e33.at at_f5_14
  have at_f5_15 := e33.at at_f5_15
  have at_f5_16 := e33.at at_f5_16
  have at_f5_17 := e33.at at_f5_17
  have at_f2_0 := e33.at at_f2_0
  have at_f2_1 := e33.at at_f2_1
  have at_f2_2 := e33.at at_f2_2
  have at_f2_3 := e33.at at_f2_3
  have at_f2_65 := e33.at at_f2_65
  have at_f2_4 := e33.at at_f2_4
  have at_f2_5 := e33.at at_f2_5
  have at_f2_87 := e33.at at_f2_87
  have at_f2_89 := e33.at at_f2_89
  have at_f2_6 := e33.at at_f2_6
  have at_f2_7 := e33.at at_f2_7
  have at_f2_8 := e33.at at_f2_8
  have at_q1 := e33.at at_q1
  have at_q4 := aq33
  have ct_q4 := cc33
  obtain ⟨L, K, G, Q, I, J⟩ := P33
  obtain ⟨hQ, hI, hPw, hDw⟩ := p33
  have hl : lv_has ls 4 [(3, .int 0), (2, .ref q4), (1, .ref q1), (0, .ref b)] := lv_sub hl [0, 1, 2, 3] rfl
  obtain ⟨hx, hb, hr, hml, hown, htl, hX, hbl, hlocks, hgv⟩ := id C0
  refine W.base ?_
  have cQx : Q (q1) = _ := ct_q1.1
  have cQm : Q (q4) = _ := ct_q4.1
  have cQs : Q (f2 8) = _ := ct_f2_8.1
  have cQe : Q (f2 4) = _ := ct_f2_4.1
  have cIx : I (q1) = _ := ct_q1.2
  have cIm : I (q4) = _ := ct_q4.2
  have cIn : I (f5 0) = _ := ct_f5_0.2
  have cIk : I (f5 10) = _ := ct_f5_10.2
  have cIf : I (f2 1) = _ := ci_f2_1
  have xa : an Q (q1) = (f2 1) := by unfold an; rw [cQx]; rfl
  have xs : sa Q (q1) = (f2 8) := by unfold sa; rw [cQx]; rfl
  have xe : se Q (q1) = (f2 4) := by unfold se; rw [cQx]; rfl
  have xn : nf Q (f2 4) = (f2 1) := by unfold nf; rw [cQe]; rfl
  have ma : a0 Q (q4) 0 = (f5 0) := by unfold a0; rw [cQm]; rfl
  have mk : a0 Q (q4) 10 = (f5 10) := by unfold a0; rw [cQm]; rfl
  have hC : cxA Q I J (q1) (sg0 (J (a0 Q (q4) 5))) := cxA_0 xa cIf (by rw [cIx]) (fun s _ => by rw [xs, cQs]) (by rw [xe, xn])
  have hM : cmA Q I J (q4) (sg0 (J (a0 Q (q4) 5))) := cmA_0 (by rw [ma, cIn]) (by rw [cIm]) (by rw [mk, cIk])
  exact s_lwloop l C0 hL hKt (xS_of htl hgv (fun a ha => Nat.not_le.mpr ha)) 512 0 0 s.drawn H _ ls 110 27528 rfl (by decide) ⟨L, K, G, Q, I, J, (0, f2 0, fun _ => 0), (0, f5 11, fun _ => 0), 999, _, hQ, hI, at_q1.1, at_q4.1, by decide, ⟨rfl, fun _ _ => rfl⟩, hC, hM, hDw, pl_in (D := (dC, dI)) (cs := (csF kB kI kJ k3 k0 k1 kZ)) hDw, hPw, hS, hl, Drawn.sameBut.refl s.drawn lw_cs, by decide, by decide⟩
