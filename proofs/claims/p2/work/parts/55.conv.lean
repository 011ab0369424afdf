
set_option maxHeartbeats 4000000 in
set_option maxRecDepth 100000 in
theorem s_conv {p : Program} {e : Env} {s : State} {m : MethodId} {below : List Frame} {meth : Method} {c : Code} (l : Launch) {b Ln : Nat} {xs : Nat → Int32} {dC : Nat → ClassId} {dI : Nat → Nat → Nat} (C0 : lw_At p s m meth c b Ln xs) (hL : Ln ≤ 3072) {q1 q2 q3 q12 q13 q14 q22 q15 q23 q16 q24 q17 q25 q18 q26 q19 q27 q20 q28 q21 q29 q30 q31 q32 q33 q34 q35 q36 q37 q38 q39 q4 q50 q51 q52 q60 q53 q61 q54 q62 q55 q63 q56 q64 q57 q65 q58 q66 q59 q67 q68 q69 q70 q71 q72 q73 q74 q75 q76 q77 q5 q6 q88 q89 q99 q90 q100 q91 q101 q92 q102 q93 q103 q94 q104 q95 q105 q96 q106 q97 q107 q98 q108 q7 q120 q8 q122 q123 q124 q9 q10 q129 q130 q131 q132 q133 q134 q135 q136 q137 q138 q139 q140 q141 q142 q143 q144 q145 q146 q147 : Nat} {k11 k40 k41 k42 k43 k44 k45 k46 k47 k48 k49 k78 k79 k80 k81 k82 k83 k84 k85 k86 k87 k109 k110 k111 k112 k113 k114 k115 k116 k117 k118 k119 k121 k125 k126 k127 k128 k148 k149 k150 k151 k152 k153 k154 k155 k156 k157 k158 k159 k160 k161 k162 k163 k164 k165 : ClassId} {H : Heap} {locs : List Loc} {ls : Array Slot} (hK : va_K (dC, dI) vwCl [(k11, .byte), (k40, .object RX3), (k41, .object RX0), (k42, .long), (k43, .long), (k44, .long), (k45, .long), (k46, .long), (k47, .long), (k48, .long), (k49, .long), (k78, .object RX3), (k79, .object RX0), (k80, .long), (k81, .long), (k82, .long), (k83, .long), (k84, .long), (k85, .long), (k86, .long), (k87, .long), (k109, .object RX3), (k110, .long), (k111, .long), (k112, .long), (k113, .long), (k114, .long), (k115, .long), (k116, .long), (k117, .long), (k118, .long), (k119, .long), (k121, .long), (k125, .long), (k126, .int), (k127, .object RX1), (k128, .object RX1), (k148, .int), (k149, .int), (k150, .int), (k151, .int), (k152, .int), (k153, .long), (k154, .long), (k155, .long), (k156, .long), (k157, .long), (k158, .boolean), (k159, .byte), (k160, .long), (k161, .long), (k162, .int), (k163, .int), (k164, .int), (k165, .int)] s) (hP : va_P (dC, dI) vwCl [(q1, .inr (6, [.ref q2, .int 0, .ref q3, .ref q4, .ref q5, .ref q6, .ref q7, .ref q8, .ref q9, .int 0, .int 0, .ref q10])), (q2, .inl (k11, 400, .inl (fun _ => 0))), (q3, .inr (1, [.ref q12, .ref q13, .int 0, .int 0, .int 0])), (q12, .inl (k40, 8, .inr (.inr (.inr (.inr (rl [q14, q15, q16, q17, q18, q19, q20, q21])))))), (q13, .inl (k41, 10, .inr (.inr (.inr (.inr (rl [q30, q31, q32, q33, q34, q35, q36, q37, q38, q39])))))), (q14, .inr (3, [.int 0, .int 0, .ref q22, .int 0, .int 0, .int 0, .int 0, .int 0])), (q22, .inl (k42, 80, .inr (.inl (fun _ => 0)))), (q15, .inr (3, [.int 0, .int 0, .ref q23, .int 0, .int 0, .int 0, .int 0, .int 0])), (q23, .inl (k43, 80, .inr (.inl (fun _ => 0)))), (q16, .inr (3, [.int 0, .int 0, .ref q24, .int 0, .int 0, .int 0, .int 0, .int 0])), (q24, .inl (k44, 80, .inr (.inl (fun _ => 0)))), (q17, .inr (3, [.int 0, .int 0, .ref q25, .int 0, .int 0, .int 0, .int 0, .int 0])), (q25, .inl (k45, 80, .inr (.inl (fun _ => 0)))), (q18, .inr (3, [.int 0, .int 0, .ref q26, .int 0, .int 0, .int 0, .int 0, .int 0])), (q26, .inl (k46, 80, .inr (.inl (fun _ => 0)))), (q19, .inr (3, [.int 0, .int 0, .ref q27, .int 0, .int 0, .int 0, .int 0, .int 0])), (q27, .inl (k47, 80, .inr (.inl (fun _ => 0)))), (q20, .inr (3, [.int 0, .int 0, .ref q28, .int 0, .int 0, .int 0, .int 0, .int 0])), (q28, .inl (k48, 80, .inr (.inl (fun _ => 0)))), (q21, .inr (3, [.int 0, .int 0, .ref q29, .int 0, .int 0, .int 0, .int 0, .int 0])), (q29, .inl (k49, 80, .inr (.inl (fun _ => 0)))), (q30, .inr (0, [.int 0, .int 0, .int 0, .int 0, .int 0, .int 0, .int 0, .int 0])), (q31, .inr (0, [.int 0, .int 0, .int 0, .int 0, .int 0, .int 0, .int 0, .int 0])), (q32, .inr (0, [.int 0, .int 0, .int 0, .int 0, .int 0, .int 0, .int 0, .int 0])), (q33, .inr (0, [.int 0, .int 0, .int 0, .int 0, .int 0, .int 0, .int 0, .int 0])), (q34, .inr (0, [.int 0, .int 0, .int 0, .int 0, .int 0, .int 0, .int 0, .int 0])), (q35, .inr (0, [.int 0, .int 0, .int 0, .int 0, .int 0, .int 0, .int 0, .int 0])), (q36, .inr (0, [.int 0, .int 0, .int 0, .int 0, .int 0, .int 0, .int 0, .int 0])), (q37, .inr (0, [.int 0, .int 0, .int 0, .int 0, .int 0, .int 0, .int 0, .int 0])), (q38, .inr (0, [.int 0, .int 0, .int 0, .int 0, .int 0, .int 0, .int 0, .int 0])), (q39, .inr (0, [.int 0, .int 0, .int 0, .int 0, .int 0, .int 0, .int 0, .int 0])), (q4, .inr (1, [.ref q50, .ref q51, .int 0, .int 0, .int 0])), (q50, .inl (k78, 8, .inr (.inr (.inr (.inr (rl [q52, q53, q54, q55, q56, q57, q58, q59])))))), (q51, .inl (k79, 10, .inr (.inr (.inr (.inr (rl [q68, q69, q70, q71, q72, q73, q74, q75, q76, q77])))))), (q52, .inr (3, [.int 0, .int 0, .ref q60, .int 0, .int 0, .int 0, .int 0, .int 0])), (q60, .inl (k80, 80, .inr (.inl (fun _ => 0)))), (q53, .inr (3, [.int 0, .int 0, .ref q61, .int 0, .int 0, .int 0, .int 0, .int 0])), (q61, .inl (k81, 80, .inr (.inl (fun _ => 0)))), (q54, .inr (3, [.int 0, .int 0, .ref q62, .int 0, .int 0, .int 0, .int 0, .int 0])), (q62, .inl (k82, 80, .inr (.inl (fun _ => 0)))), (q55, .inr (3, [.int 0, .int 0, .ref q63, .int 0, .int 0, .int 0, .int 0, .int 0])), (q63, .inl (k83, 80, .inr (.inl (fun _ => 0)))), (q56, .inr (3, [.int 0, .int 0, .ref q64, .int 0, .int 0, .int 0, .int 0, .int 0])), (q64, .inl (k84, 80, .inr (.inl (fun _ => 0)))), (q57, .inr (3, [.int 0, .int 0, .ref q65, .int 0, .int 0, .int 0, .int 0, .int 0])), (q65, .inl (k85, 80, .inr (.inl (fun _ => 0)))), (q58, .inr (3, [.int 0, .int 0, .ref q66, .int 0, .int 0, .int 0, .int 0, .int 0])), (q66, .inl (k86, 80, .inr (.inl (fun _ => 0)))), (q59, .inr (3, [.int 0, .int 0, .ref q67, .int 0, .int 0, .int 0, .int 0, .int 0])), (q67, .inl (k87, 80, .inr (.inl (fun _ => 0)))), (q68, .inr (0, [.int 0, .int 0, .int 0, .int 0, .int 0, .int 0, .int 0, .int 0])), (q69, .inr (0, [.int 0, .int 0, .int 0, .int 0, .int 0, .int 0, .int 0, .int 0])), (q70, .inr (0, [.int 0, .int 0, .int 0, .int 0, .int 0, .int 0, .int 0, .int 0])), (q71, .inr (0, [.int 0, .int 0, .int 0, .int 0, .int 0, .int 0, .int 0, .int 0])), (q72, .inr (0, [.int 0, .int 0, .int 0, .int 0, .int 0, .int 0, .int 0, .int 0])), (q73, .inr (0, [.int 0, .int 0, .int 0, .int 0, .int 0, .int 0, .int 0, .int 0])), (q74, .inr (0, [.int 0, .int 0, .int 0, .int 0, .int 0, .int 0, .int 0, .int 0])), (q75, .inr (0, [.int 0, .int 0, .int 0, .int 0, .int 0, .int 0, .int 0, .int 0])), (q76, .inr (0, [.int 0, .int 0, .int 0, .int 0, .int 0, .int 0, .int 0, .int 0])), (q77, .inr (0, [.int 0, .int 0, .int 0, .int 0, .int 0, .int 0, .int 0, .int 0])), (q5, .inr (4, [.ref q2, .int 0, .int 0, .int 0, .int 0, .int 0])), (q6, .inr (5, [.ref q3, .ref q88, .int 0, .int (-1), .int 0, .int 0, .int 0, .int 0, .int 0])), (q88, .inl (k109, 10, .inr (.inr (.inr (.inr (rl [q89, q90, q91, q92, q93, q94, q95, q96, q97, q98])))))), (q89, .inr (3, [.int 0, .int 0, .ref q99, .int 0, .int 0, .int 0, .int 0, .int 0])), (q99, .inl (k110, 80, .inr (.inl (fun _ => 0)))), (q90, .inr (3, [.int 0, .int 0, .ref q100, .int 0, .int 0, .int 0, .int 0, .int 0])), (q100, .inl (k111, 80, .inr (.inl (fun _ => 0)))), (q91, .inr (3, [.int 0, .int 0, .ref q101, .int 0, .int 0, .int 0, .int 0, .int 0])), (q101, .inl (k112, 80, .inr (.inl (fun _ => 0)))), (q92, .inr (3, [.int 0, .int 0, .ref q102, .int 0, .int 0, .int 0, .int 0, .int 0])), (q102, .inl (k113, 80, .inr (.inl (fun _ => 0)))), (q93, .inr (3, [.int 0, .int 0, .ref q103, .int 0, .int 0, .int 0, .int 0, .int 0])), (q103, .inl (k114, 80, .inr (.inl (fun _ => 0)))), (q94, .inr (3, [.int 0, .int 0, .ref q104, .int 0, .int 0, .int 0, .int 0, .int 0])), (q104, .inl (k115, 80, .inr (.inl (fun _ => 0)))), (q95, .inr (3, [.int 0, .int 0, .ref q105, .int 0, .int 0, .int 0, .int 0, .int 0])), (q105, .inl (k116, 80, .inr (.inl (fun _ => 0)))), (q96, .inr (3, [.int 0, .int 0, .ref q106, .int 0, .int 0, .int 0, .int 0, .int 0])), (q106, .inl (k117, 80, .inr (.inl (fun _ => 0)))), (q97, .inr (3, [.int 0, .int 0, .ref q107, .int 0, .int 0, .int 0, .int 0, .int 0])), (q107, .inl (k118, 80, .inr (.inl (fun _ => 0)))), (q98, .inr (3, [.int 0, .int 0, .ref q108, .int 0, .int 0, .int 0, .int 0, .int 0])), (q108, .inl (k119, 80, .inr (.inl (fun _ => 0)))), (q7, .inr (3, [.int 0, .int 0, .ref q120, .int 0, .int 0, .int 0, .int 0, .int 0])), (q120, .inl (k121, 80, .inr (.inl (fun _ => 0)))), (q8, .inr (2, [.ref q122, .ref q124, .int 0, .int 0, .int 0, .int 0, .int 0, .int 0])), (q122, .inr (3, [.int 0, .int 0, .ref q123, .int 0, .int 0, .int 0, .int 0, .int 0])), (q123, .inl (k125, 80, .inr (.inl (fun _ => 0)))), (q124, .inl (k126, 4000, .inl (fun _ => 0))), (q9, .inl (k127, 10, .inr (.inr (.inr (.inr (fun _ => none)))))), (q10, .inl (k128, 2, .inr (.inr (.inr (.inr (fun _ => none)))))), (q129, .inr (7, [.ref q130, .ref q131, .ref q132, .ref q133, .ref q134, .ref q135, .ref q136, .ref q137, .ref q138, .ref q139, .ref q140, .int 0, .ref q141, .int 0, .int 0, .int 0, .int 0, .ref q142, .int 0, .ref q143, .ref q144, .ref q145, .ref q146, .int 0, .int 0, .ref q147])), (q130, .inl (k148, 99, .inl (fun _ => 0))), (q131, .inl (k149, 99, .inl (fun _ => 0))), (q132, .inl (k150, 99, .inl (fun _ => 0))), (q133, .inl (k151, 990, .inl (fun _ => 0))), (q134, .inl (k152, 198, .inl (fun _ => 0))), (q135, .inl (k153, 640, .inr (.inl (fun _ => 0)))), (q136, .inl (k154, 640, .inr (.inl (fun _ => 0)))), (q137, .inl (k155, 640, .inr (.inl (fun _ => 0)))), (q138, .inl (k156, 6400, .inr (.inl (fun _ => 0)))), (q139, .inl (k157, 1280, .inr (.inl (fun _ => 0)))), (q140, .inl (k158, 2, .inl (fun _ => 0))), (q141, .inl (k159, 400, .inl (fun _ => 0))), (q142, .inl (k160, 800, .inr (.inl (fun _ => 0)))), (q143, .inl (k161, 80, .inr (.inl (fun _ => 0)))), (q144, .inl (k162, 4, .inl (fun _ => 0))), (q145, .inl (k163, 4000, .inl (fun _ => 0))), (q146, .inl (k164, 4000, .inl (fun _ => 0))), (q147, .inl (k165, 4, .inl (fun _ => 0)))] H) (hD : va_D (fun q : Nat => s.heap.size ≤ q) [(q1, .inr (6, [.ref q2, .int 0, .ref q3, .ref q4, .ref q5, .ref q6, .ref q7, .ref q8, .ref q9, .int 0, .int 0, .ref q10])), (q2, .inl (k11, 400, .inl (fun _ => 0))), (q3, .inr (1, [.ref q12, .ref q13, .int 0, .int 0, .int 0])), (q12, .inl (k40, 8, .inr (.inr (.inr (.inr (rl [q14, q15, q16, q17, q18, q19, q20, q21])))))), (q13, .inl (k41, 10, .inr (.inr (.inr (.inr (rl [q30, q31, q32, q33, q34, q35, q36, q37, q38, q39])))))), (q14, .inr (3, [.int 0, .int 0, .ref q22, .int 0, .int 0, .int 0, .int 0, .int 0])), (q22, .inl (k42, 80, .inr (.inl (fun _ => 0)))), (q15, .inr (3, [.int 0, .int 0, .ref q23, .int 0, .int 0, .int 0, .int 0, .int 0])), (q23, .inl (k43, 80, .inr (.inl (fun _ => 0)))), (q16, .inr (3, [.int 0, .int 0, .ref q24, .int 0, .int 0, .int 0, .int 0, .int 0])), (q24, .inl (k44, 80, .inr (.inl (fun _ => 0)))), (q17, .inr (3, [.int 0, .int 0, .ref q25, .int 0, .int 0, .int 0, .int 0, .int 0])), (q25, .inl (k45, 80, .inr (.inl (fun _ => 0)))), (q18, .inr (3, [.int 0, .int 0, .ref q26, .int 0, .int 0, .int 0, .int 0, .int 0])), (q26, .inl (k46, 80, .inr (.inl (fun _ => 0)))), (q19, .inr (3, [.int 0, .int 0, .ref q27, .int 0, .int 0, .int 0, .int 0, .int 0])), (q27, .inl (k47, 80, .inr (.inl (fun _ => 0)))), (q20, .inr (3, [.int 0, .int 0, .ref q28, .int 0, .int 0, .int 0, .int 0, .int 0])), (q28, .inl (k48, 80, .inr (.inl (fun _ => 0)))), (q21, .inr (3, [.int 0, .int 0, .ref q29, .int 0, .int 0, .int 0, .int 0, .int 0])), (q29, .inl (k49, 80, .inr (.inl (fun _ => 0)))), (q30, .inr (0, [.int 0, .int 0, .int 0, .int 0, .int 0, .int 0, .int 0, .int 0])), (q31, .inr (0, [.int 0, .int 0, .int 0, .int 0, .int 0, .int 0, .int 0, .int 0])), (q32, .inr (0, [.int 0, .int 0, .int 0, .int 0, .int 0, .int 0, .int 0, .int 0])), (q33, .inr (0, [.int 0, .int 0, .int 0, .int 0, .int 0, .int 0, .int 0, .int 0])), (q34, .inr (0, [.int 0, .int 0, .int 0, .int 0, .int 0, .int 0, .int 0, .int 0])), (q35, .inr (0, [.int 0, .int 0, .int 0, .int 0, .int 0, .int 0, .int 0, .int 0])), (q36, .inr (0, [.int 0, .int 0, .int 0, .int 0, .int 0, .int 0, .int 0, .int 0])), (q37, .inr (0, [.int 0, .int 0, .int 0, .int 0, .int 0, .int 0, .int 0, .int 0])), (q38, .inr (0, [.int 0, .int 0, .int 0, .int 0, .int 0, .int 0, .int 0, .int 0])), (q39, .inr (0, [.int 0, .int 0, .int 0, .int 0, .int 0, .int 0, .int 0, .int 0])), (q4, .inr (1, [.ref q50, .ref q51, .int 0, .int 0, .int 0])), (q50, .inl (k78, 8, .inr (.inr (.inr (.inr (rl [q52, q53, q54, q55, q56, q57, q58, q59])))))), (q51, .inl (k79, 10, .inr (.inr (.inr (.inr (rl [q68, q69, q70, q71, q72, q73, q74, q75, q76, q77])))))), (q52, .inr (3, [.int 0, .int 0, .ref q60, .int 0, .int 0, .int 0, .int 0, .int 0])), (q60, .inl (k80, 80, .inr (.inl (fun _ => 0)))), (q53, .inr (3, [.int 0, .int 0, .ref q61, .int 0, .int 0, .int 0, .int 0, .int 0])), (q61, .inl (k81, 80, .inr (.inl (fun _ => 0)))), (q54, .inr (3, [.int 0, .int 0, .ref q62, .int 0, .int 0, .int 0, .int 0, .int 0])), (q62, .inl (k82, 80, .inr (.inl (fun _ => 0)))), (q55, .inr (3, [.int 0, .int 0, .ref q63, .int 0, .int 0, .int 0, .int 0, .int 0])), (q63, .inl (k83, 80, .inr (.inl (fun _ => 0)))), (q56, .inr (3, [.int 0, .int 0, .ref q64, .int 0, .int 0, .int 0, .int 0, .int 0])), (q64, .inl (k84, 80, .inr (.inl (fun _ => 0)))), (q57, .inr (3, [.int 0, .int 0, .ref q65, .int 0, .int 0, .int 0, .int 0, .int 0])), (q65, .inl (k85, 80, .inr (.inl (fun _ => 0)))), (q58, .inr (3, [.int 0, .int 0, .ref q66, .int 0, .int 0, .int 0, .int 0, .int 0])), (q66, .inl (k86, 80, .inr (.inl (fun _ => 0)))), (q59, .inr (3, [.int 0, .int 0, .ref q67, .int 0, .int 0, .int 0, .int 0, .int 0])), (q67, .inl (k87, 80, .inr (.inl (fun _ => 0)))), (q68, .inr (0, [.int 0, .int 0, .int 0, .int 0, .int 0, .int 0, .int 0, .int 0])), (q69, .inr (0, [.int 0, .int 0, .int 0, .int 0, .int 0, .int 0, .int 0, .int 0])), (q70, .inr (0, [.int 0, .int 0, .int 0, .int 0, .int 0, .int 0, .int 0, .int 0])), (q71, .inr (0, [.int 0, .int 0, .int 0, .int 0, .int 0, .int 0, .int 0, .int 0])), (q72, .inr (0, [.int 0, .int 0, .int 0, .int 0, .int 0, .int 0, .int 0, .int 0])), (q73, .inr (0, [.int 0, .int 0, .int 0, .int 0, .int 0, .int 0, .int 0, .int 0])), (q74, .inr (0, [.int 0, .int 0, .int 0, .int 0, .int 0, .int 0, .int 0, .int 0])), (q75, .inr (0, [.int 0, .int 0, .int 0, .int 0, .int 0, .int 0, .int 0, .int 0])), (q76, .inr (0, [.int 0, .int 0, .int 0, .int 0, .int 0, .int 0, .int 0, .int 0])), (q77, .inr (0, [.int 0, .int 0, .int 0, .int 0, .int 0, .int 0, .int 0, .int 0])), (q5, .inr (4, [.ref q2, .int 0, .int 0, .int 0, .int 0, .int 0])), (q6, .inr (5, [.ref q3, .ref q88, .int 0, .int (-1), .int 0, .int 0, .int 0, .int 0, .int 0])), (q88, .inl (k109, 10, .inr (.inr (.inr (.inr (rl [q89, q90, q91, q92, q93, q94, q95, q96, q97, q98])))))), (q89, .inr (3, [.int 0, .int 0, .ref q99, .int 0, .int 0, .int 0, .int 0, .int 0])), (q99, .inl (k110, 80, .inr (.inl (fun _ => 0)))), (q90, .inr (3, [.int 0, .int 0, .ref q100, .int 0, .int 0, .int 0, .int 0, .int 0])), (q100, .inl (k111, 80, .inr (.inl (fun _ => 0)))), (q91, .inr (3, [.int 0, .int 0, .ref q101, .int 0, .int 0, .int 0, .int 0, .int 0])), (q101, .inl (k112, 80, .inr (.inl (fun _ => 0)))), (q92, .inr (3, [.int 0, .int 0, .ref q102, .int 0, .int 0, .int 0, .int 0, .int 0])), (q102, .inl (k113, 80, .inr (.inl (fun _ => 0)))), (q93, .inr (3, [.int 0, .int 0, .ref q103, .int 0, .int 0, .int 0, .int 0, .int 0])), (q103, .inl (k114, 80, .inr (.inl (fun _ => 0)))), (q94, .inr (3, [.int 0, .int 0, .ref q104, .int 0, .int 0, .int 0, .int 0, .int 0])), (q104, .inl (k115, 80, .inr (.inl (fun _ => 0)))), (q95, .inr (3, [.int 0, .int 0, .ref q105, .int 0, .int 0, .int 0, .int 0, .int 0])), (q105, .inl (k116, 80, .inr (.inl (fun _ => 0)))), (q96, .inr (3, [.int 0, .int 0, .ref q106, .int 0, .int 0, .int 0, .int 0, .int 0])), (q106, .inl (k117, 80, .inr (.inl (fun _ => 0)))), (q97, .inr (3, [.int 0, .int 0, .ref q107, .int 0, .int 0, .int 0, .int 0, .int 0])), (q107, .inl (k118, 80, .inr (.inl (fun _ => 0)))), (q98, .inr (3, [.int 0, .int 0, .ref q108, .int 0, .int 0, .int 0, .int 0, .int 0])), (q108, .inl (k119, 80, .inr (.inl (fun _ => 0)))), (q7, .inr (3, [.int 0, .int 0, .ref q120, .int 0, .int 0, .int 0, .int 0, .int 0])), (q120, .inl (k121, 80, .inr (.inl (fun _ => 0)))), (q8, .inr (2, [.ref q122, .ref q124, .int 0, .int 0, .int 0, .int 0, .int 0, .int 0])), (q122, .inr (3, [.int 0, .int 0, .ref q123, .int 0, .int 0, .int 0, .int 0, .int 0])), (q123, .inl (k125, 80, .inr (.inl (fun _ => 0)))), (q124, .inl (k126, 4000, .inl (fun _ => 0))), (q9, .inl (k127, 10, .inr (.inr (.inr (.inr (fun _ => none)))))), (q10, .inl (k128, 2, .inr (.inr (.inr (.inr (fun _ => none)))))), (q129, .inr (7, [.ref q130, .ref q131, .ref q132, .ref q133, .ref q134, .ref q135, .ref q136, .ref q137, .ref q138, .ref q139, .ref q140, .int 0, .ref q141, .int 0, .int 0, .int 0, .int 0, .ref q142, .int 0, .ref q143, .ref q144, .ref q145, .ref q146, .int 0, .int 0, .ref q147])), (q130, .inl (k148, 99, .inl (fun _ => 0))), (q131, .inl (k149, 99, .inl (fun _ => 0))), (q132, .inl (k150, 99, .inl (fun _ => 0))), (q133, .inl (k151, 990, .inl (fun _ => 0))), (q134, .inl (k152, 198, .inl (fun _ => 0))), (q135, .inl (k153, 640, .inr (.inl (fun _ => 0)))), (q136, .inl (k154, 640, .inr (.inl (fun _ => 0)))), (q137, .inl (k155, 640, .inr (.inl (fun _ => 0)))), (q138, .inl (k156, 6400, .inr (.inl (fun _ => 0)))), (q139, .inl (k157, 1280, .inr (.inl (fun _ => 0)))), (q140, .inl (k158, 2, .inl (fun _ => 0))), (q141, .inl (k159, 400, .inl (fun _ => 0))), (q142, .inl (k160, 800, .inr (.inl (fun _ => 0)))), (q143, .inl (k161, 80, .inr (.inl (fun _ => 0)))), (q144, .inl (k162, 4, .inl (fun _ => 0))), (q145, .inl (k163, 4000, .inl (fun _ => 0))), (q146, .inl (k164, 4000, .inl (fun _ => 0))), (q147, .inl (k165, 4, .inl (fun _ => 0)))]) (hS : va_S (fun q : Nat => s.heap.size ≤ q) s.heap H locs) (hl : lv_has ls 4 [(3, .int 0), (2, .ref q129), (1, .ref q1), (0, .ref b)]) : W p l e room_1 s m #[Value.ref b] below meth c H locs 110 27528 (lw_Z below #[Value.ref b] s) (F0 m 18 ls []) := by
  obtain rfl : k42 = k43 := (K_uniq hK hK (i := 3) (j := 4) rfl rfl).symm
  obtain rfl : k42 = k44 := (K_uniq hK hK (i := 3) (j := 5) rfl rfl).symm
  obtain rfl : k42 = k45 := (K_uniq hK hK (i := 3) (j := 6) rfl rfl).symm
  obtain rfl : k42 = k46 := (K_uniq hK hK (i := 3) (j := 7) rfl rfl).symm
  obtain rfl : k42 = k47 := (K_uniq hK hK (i := 3) (j := 8) rfl rfl).symm
  obtain rfl : k42 = k48 := (K_uniq hK hK (i := 3) (j := 9) rfl rfl).symm
  obtain rfl : k42 = k49 := (K_uniq hK hK (i := 3) (j := 10) rfl rfl).symm
  obtain rfl : k40 = k78 := (K_uniq hK hK (i := 1) (j := 11) rfl rfl).symm
  obtain rfl : k41 = k79 := (K_uniq hK hK (i := 2) (j := 12) rfl rfl).symm
  obtain rfl : k42 = k80 := (K_uniq hK hK (i := 3) (j := 13) rfl rfl).symm
  obtain rfl : k42 = k81 := (K_uniq hK hK (i := 3) (j := 14) rfl rfl).symm
  obtain rfl : k42 = k82 := (K_uniq hK hK (i := 3) (j := 15) rfl rfl).symm
  obtain rfl : k42 = k83 := (K_uniq hK hK (i := 3) (j := 16) rfl rfl).symm
  obtain rfl : k42 = k84 := (K_uniq hK hK (i := 3) (j := 17) rfl rfl).symm
  obtain rfl : k42 = k85 := (K_uniq hK hK (i := 3) (j := 18) rfl rfl).symm
  obtain rfl : k42 = k86 := (K_uniq hK hK (i := 3) (j := 19) rfl rfl).symm
  obtain rfl : k42 = k87 := (K_uniq hK hK (i := 3) (j := 20) rfl rfl).symm
  obtain rfl : k40 = k109 := (K_uniq hK hK (i := 1) (j := 21) rfl rfl).symm
  obtain rfl : k42 = k110 := (K_uniq hK hK (i := 3) (j := 22) rfl rfl).symm
  obtain rfl : k42 = k111 := (K_uniq hK hK (i := 3) (j := 23) rfl rfl).symm
  obtain rfl : k42 = k112 := (K_uniq hK hK (i := 3) (j := 24) rfl rfl).symm
  obtain rfl : k42 = k113 := (K_uniq hK hK (i := 3) (j := 25) rfl rfl).symm
  obtain rfl : k42 = k114 := (K_uniq hK hK (i := 3) (j := 26) rfl rfl).symm
  obtain rfl : k42 = k115 := (K_uniq hK hK (i := 3) (j := 27) rfl rfl).symm
  obtain rfl : k42 = k116 := (K_uniq hK hK (i := 3) (j := 28) rfl rfl).symm
  obtain rfl : k42 = k117 := (K_uniq hK hK (i := 3) (j := 29) rfl rfl).symm
  obtain rfl : k42 = k118 := (K_uniq hK hK (i := 3) (j := 30) rfl rfl).symm
  obtain rfl : k42 = k119 := (K_uniq hK hK (i := 3) (j := 31) rfl rfl).symm
  obtain rfl : k42 = k121 := (K_uniq hK hK (i := 3) (j := 32) rfl rfl).symm
  obtain rfl : k42 = k125 := (K_uniq hK hK (i := 3) (j := 33) rfl rfl).symm
  obtain rfl : k127 = k128 := (K_uniq hK hK (i := 35) (j := 36) rfl rfl).symm
  obtain rfl : k126 = k148 := (K_uniq hK hK (i := 34) (j := 37) rfl rfl).symm
  obtain rfl : k126 = k149 := (K_uniq hK hK (i := 34) (j := 38) rfl rfl).symm
  obtain rfl : k126 = k150 := (K_uniq hK hK (i := 34) (j := 39) rfl rfl).symm
  obtain rfl : k126 = k151 := (K_uniq hK hK (i := 34) (j := 40) rfl rfl).symm
  obtain rfl : k126 = k152 := (K_uniq hK hK (i := 34) (j := 41) rfl rfl).symm
  obtain rfl : k42 = k153 := (K_uniq hK hK (i := 3) (j := 42) rfl rfl).symm
  obtain rfl : k42 = k154 := (K_uniq hK hK (i := 3) (j := 43) rfl rfl).symm
  obtain rfl : k42 = k155 := (K_uniq hK hK (i := 3) (j := 44) rfl rfl).symm
  obtain rfl : k42 = k156 := (K_uniq hK hK (i := 3) (j := 45) rfl rfl).symm
  obtain rfl : k42 = k157 := (K_uniq hK hK (i := 3) (j := 46) rfl rfl).symm
  obtain rfl : k11 = k159 := (K_uniq hK hK (i := 0) (j := 48) rfl rfl).symm
  obtain rfl : k42 = k160 := (K_uniq hK hK (i := 3) (j := 49) rfl rfl).symm
  obtain rfl : k42 = k161 := (K_uniq hK hK (i := 3) (j := 50) rfl rfl).symm
  obtain rfl : k126 = k162 := (K_uniq hK hK (i := 34) (j := 51) rfl rfl).symm
  obtain rfl : k126 = k163 := (K_uniq hK hK (i := 34) (j := 52) rfl rfl).symm
  obtain rfl : k126 = k164 := (K_uniq hK hK (i := 34) (j := 53) rfl rfl).symm
  obtain rfl : k126 = k165 := (K_uniq hK hK (i := 34) (j := 54) rfl rfl).symm
  have hKt : va_K (dC, dI) vwCl (tysA (csF k11 k126 k42 k40 k41 k127 k158)) s := hK.sub (tys' := tysA (csF k11 k126 k42 k40 k41 k127 k158)) [0, 34, 3, 1, 2, 1, 35, 35, 34, 34, 34, 3, 3, 3, 47, 3, 34, 34, 34, 34, 34] rfl
  have hD2 := hD.sub (ws' := [(q130, .inl (k126, 99, .inl (fun _ => 0))), (q131, .inl (k126, 99, .inl (fun _ => 0))), (q132, .inl (k126, 99, .inl (fun _ => 0))), (q133, .inl (k126, 990, .inl (fun _ => 0))), (q134, .inl (k126, 198, .inl (fun _ => 0))), (q135, .inl (k42, 640, .inr (.inl (fun _ => 0)))), (q136, .inl (k42, 640, .inr (.inl (fun _ => 0)))), (q137, .inl (k42, 640, .inr (.inl (fun _ => 0)))), (q138, .inl (k42, 6400, .inr (.inl (fun _ => 0)))), (q139, .inl (k42, 1280, .inr (.inl (fun _ => 0)))), (q140, .inl (k158, 2, .inl (fun _ => 0))), (q141, .inl (k11, 400, .inl (fun _ => 0))), (q142, .inl (k42, 800, .inr (.inl (fun _ => 0)))), (q143, .inl (k42, 80, .inr (.inl (fun _ => 0)))), (q144, .inl (k126, 4, .inl (fun _ => 0))), (q145, .inl (k126, 4000, .inl (fun _ => 0))), (q146, .inl (k126, 4000, .inl (fun _ => 0))), (q147, .inl (k126, 4, .inl (fun _ => 0))), (q2, .inl (k11, 400, .inl (fun _ => 0))), (q14, .inr (3, [.int 0, .int 0, .ref q22, .int 0, .int 0, .int 0, .int 0, .int 0])), (q22, .inl (k42, 80, .inr (.inl (fun _ => 0)))), (q15, .inr (3, [.int 0, .int 0, .ref q23, .int 0, .int 0, .int 0, .int 0, .int 0])), (q23, .inl (k42, 80, .inr (.inl (fun _ => 0)))), (q16, .inr (3, [.int 0, .int 0, .ref q24, .int 0, .int 0, .int 0, .int 0, .int 0])), (q24, .inl (k42, 80, .inr (.inl (fun _ => 0)))), (q17, .inr (3, [.int 0, .int 0, .ref q25, .int 0, .int 0, .int 0, .int 0, .int 0])), (q25, .inl (k42, 80, .inr (.inl (fun _ => 0)))), (q18, .inr (3, [.int 0, .int 0, .ref q26, .int 0, .int 0, .int 0, .int 0, .int 0])), (q26, .inl (k42, 80, .inr (.inl (fun _ => 0)))), (q19, .inr (3, [.int 0, .int 0, .ref q27, .int 0, .int 0, .int 0, .int 0, .int 0])), (q27, .inl (k42, 80, .inr (.inl (fun _ => 0)))), (q20, .inr (3, [.int 0, .int 0, .ref q28, .int 0, .int 0, .int 0, .int 0, .int 0])), (q28, .inl (k42, 80, .inr (.inl (fun _ => 0)))), (q21, .inr (3, [.int 0, .int 0, .ref q29, .int 0, .int 0, .int 0, .int 0, .int 0])), (q29, .inl (k42, 80, .inr (.inl (fun _ => 0)))), (q30, .inr (0, [.int 0, .int 0, .int 0, .int 0, .int 0, .int 0, .int 0, .int 0])), (q31, .inr (0, [.int 0, .int 0, .int 0, .int 0, .int 0, .int 0, .int 0, .int 0])), (q32, .inr (0, [.int 0, .int 0, .int 0, .int 0, .int 0, .int 0, .int 0, .int 0])), (q33, .inr (0, [.int 0, .int 0, .int 0, .int 0, .int 0, .int 0, .int 0, .int 0])), (q34, .inr (0, [.int 0, .int 0, .int 0, .int 0, .int 0, .int 0, .int 0, .int 0])), (q35, .inr (0, [.int 0, .int 0, .int 0, .int 0, .int 0, .int 0, .int 0, .int 0])), (q36, .inr (0, [.int 0, .int 0, .int 0, .int 0, .int 0, .int 0, .int 0, .int 0])), (q37, .inr (0, [.int 0, .int 0, .int 0, .int 0, .int 0, .int 0, .int 0, .int 0])), (q38, .inr (0, [.int 0, .int 0, .int 0, .int 0, .int 0, .int 0, .int 0, .int 0])), (q39, .inr (0, [.int 0, .int 0, .int 0, .int 0, .int 0, .int 0, .int 0, .int 0])), (q12, .inl (k40, 8, .inr (.inr (.inr (.inr (rl [q14, q15, q16, q17, q18, q19, q20, q21])))))), (q13, .inl (k41, 10, .inr (.inr (.inr (.inr (rl [q30, q31, q32, q33, q34, q35, q36, q37, q38, q39])))))), (q3, .inr (1, [.ref q12, .ref q13, .int 0, .int 0, .int 0])), (q52, .inr (3, [.int 0, .int 0, .ref q60, .int 0, .int 0, .int 0, .int 0, .int 0])), (q60, .inl (k42, 80, .inr (.inl (fun _ => 0)))), (q53, .inr (3, [.int 0, .int 0, .ref q61, .int 0, .int 0, .int 0, .int 0, .int 0])), (q61, .inl (k42, 80, .inr (.inl (fun _ => 0)))), (q54, .inr (3, [.int 0, .int 0, .ref q62, .int 0, .int 0, .int 0, .int 0, .int 0])), (q62, .inl (k42, 80, .inr (.inl (fun _ => 0)))), (q55, .inr (3, [.int 0, .int 0, .ref q63, .int 0, .int 0, .int 0, .int 0, .int 0])), (q63, .inl (k42, 80, .inr (.inl (fun _ => 0)))), (q56, .inr (3, [.int 0, .int 0, .ref q64, .int 0, .int 0, .int 0, .int 0, .int 0])), (q64, .inl (k42, 80, .inr (.inl (fun _ => 0)))), (q57, .inr (3, [.int 0, .int 0, .ref q65, .int 0, .int 0, .int 0, .int 0, .int 0])), (q65, .inl (k42, 80, .inr (.inl (fun _ => 0)))), (q58, .inr (3, [.int 0, .int 0, .ref q66, .int 0, .int 0, .int 0, .int 0, .int 0])), (q66, .inl (k42, 80, .inr (.inl (fun _ => 0)))), (q59, .inr (3, [.int 0, .int 0, .ref q67, .int 0, .int 0, .int 0, .int 0, .int 0])), (q67, .inl (k42, 80, .inr (.inl (fun _ => 0)))), (q68, .inr (0, [.int 0, .int 0, .int 0, .int 0, .int 0, .int 0, .int 0, .int 0])), (q69, .inr (0, [.int 0, .int 0, .int 0, .int 0, .int 0, .int 0, .int 0, .int 0])), (q70, .inr (0, [.int 0, .int 0, .int 0, .int 0, .int 0, .int 0, .int 0, .int 0])), (q71, .inr (0, [.int 0, .int 0, .int 0, .int 0, .int 0, .int 0, .int 0, .int 0])), (q72, .inr (0, [.int 0, .int 0, .int 0, .int 0, .int 0, .int 0, .int 0, .int 0])), (q73, .inr (0, [.int 0, .int 0, .int 0, .int 0, .int 0, .int 0, .int 0, .int 0])), (q74, .inr (0, [.int 0, .int 0, .int 0, .int 0, .int 0, .int 0, .int 0, .int 0])), (q75, .inr (0, [.int 0, .int 0, .int 0, .int 0, .int 0, .int 0, .int 0, .int 0])), (q76, .inr (0, [.int 0, .int 0, .int 0, .int 0, .int 0, .int 0, .int 0, .int 0])), (q77, .inr (0, [.int 0, .int 0, .int 0, .int 0, .int 0, .int 0, .int 0, .int 0])), (q50, .inl (k40, 8, .inr (.inr (.inr (.inr (rl [q52, q53, q54, q55, q56, q57, q58, q59])))))), (q51, .inl (k41, 10, .inr (.inr (.inr (.inr (rl [q68, q69, q70, q71, q72, q73, q74, q75, q76, q77])))))), (q4, .inr (1, [.ref q50, .ref q51, .int 0, .int 0, .int 0])), (q5, .inr (4, [.ref q2, .int 0, .int 0, .int 0, .int 0, .int 0])), (q89, .inr (3, [.int 0, .int 0, .ref q99, .int 0, .int 0, .int 0, .int 0, .int 0])), (q99, .inl (k42, 80, .inr (.inl (fun _ => 0)))), (q90, .inr (3, [.int 0, .int 0, .ref q100, .int 0, .int 0, .int 0, .int 0, .int 0])), (q100, .inl (k42, 80, .inr (.inl (fun _ => 0)))), (q91, .inr (3, [.int 0, .int 0, .ref q101, .int 0, .int 0, .int 0, .int 0, .int 0])), (q101, .inl (k42, 80, .inr (.inl (fun _ => 0)))), (q92, .inr (3, [.int 0, .int 0, .ref q102, .int 0, .int 0, .int 0, .int 0, .int 0])), (q102, .inl (k42, 80, .inr (.inl (fun _ => 0)))), (q93, .inr (3, [.int 0, .int 0, .ref q103, .int 0, .int 0, .int 0, .int 0, .int 0])), (q103, .inl (k42, 80, .inr (.inl (fun _ => 0)))), (q94, .inr (3, [.int 0, .int 0, .ref q104, .int 0, .int 0, .int 0, .int 0, .int 0])), (q104, .inl (k42, 80, .inr (.inl (fun _ => 0)))), (q95, .inr (3, [.int 0, .int 0, .ref q105, .int 0, .int 0, .int 0, .int 0, .int 0])), (q105, .inl (k42, 80, .inr (.inl (fun _ => 0)))), (q96, .inr (3, [.int 0, .int 0, .ref q106, .int 0, .int 0, .int 0, .int 0, .int 0])), (q106, .inl (k42, 80, .inr (.inl (fun _ => 0)))), (q97, .inr (3, [.int 0, .int 0, .ref q107, .int 0, .int 0, .int 0, .int 0, .int 0])), (q107, .inl (k42, 80, .inr (.inl (fun _ => 0)))), (q98, .inr (3, [.int 0, .int 0, .ref q108, .int 0, .int 0, .int 0, .int 0, .int 0])), (q108, .inl (k42, 80, .inr (.inl (fun _ => 0)))), (q88, .inl (k40, 10, .inr (.inr (.inr (.inr (rl [q89, q90, q91, q92, q93, q94, q95, q96, q97, q98])))))), (q6, .inr (5, [.ref q3, .ref q88, .int 0, .int (-1), .int 0, .int 0, .int 0, .int 0, .int 0])), (q7, .inr (3, [.int 0, .int 0, .ref q120, .int 0, .int 0, .int 0, .int 0, .int 0])), (q120, .inl (k42, 80, .inr (.inl (fun _ => 0)))), (q122, .inr (3, [.int 0, .int 0, .ref q123, .int 0, .int 0, .int 0, .int 0, .int 0])), (q123, .inl (k42, 80, .inr (.inl (fun _ => 0)))), (q124, .inl (k126, 4000, .inl (fun _ => 0))), (q8, .inr (2, [.ref q122, .ref q124, .int 0, .int 0, .int 0, .int 0, .int 0, .int 0])), (q9, .inl (k127, 10, .inr (.inr (.inr (.inr (fun _ => none)))))), (q10, .inl (k127, 2, .inr (.inr (.inr (.inr (fun _ => none)))))), (q1, .inr (6, [.ref q2, .int 0, .ref q3, .ref q4, .ref q5, .ref q6, .ref q7, .ref q8, .ref q9, .int 0, .int 0, .ref q10])), (q129, .inr (7, [.ref q130, .ref q131, .ref q132, .ref q133, .ref q134, .ref q135, .ref q136, .ref q137, .ref q138, .ref q139, .ref q140, .int 0, .ref q141, .int 0, .int 0, .int 0, .int 0, .ref q142, .int 0, .ref q143, .ref q144, .ref q145, .ref q146, .int 0, .int 0, .ref q147]))]) [92, 93, 94, 95, 96, 97, 98, 99, 100, 101, 102, 103, 104, 105, 106, 107, 108, 109, 1, 5, 6, 7, 8, 9, 10, 11, 12, 13, 14, 15, 16, 17, 18, 19, 20, 21, 22, 23, 24, 25, 26, 27, 28, 29, 30, 3, 4, 2, 34, 35, 36, 37, 38, 39, 40, 41, 42, 43, 44, 45, 46, 47, 48, 49, 50, 51, 52, 53, 54, 55, 56, 57, 58, 59, 32, 33, 31, 60, 63, 64, 65, 66, 67, 68, 69, 70, 71, 72, 73, 74, 75, 76, 77, 78, 79, 80, 81, 82, 62, 61, 83, 84, 86, 87, 88, 85, 89, 90, 0, 91] (by decide) rfl
  have N0 : [q130, q131, q132, q133, q134, q135, q136, q137, q138, q139, q140, q141, q142, q143, q144, q145, q146, q147, q2, q14, q22, q15, q23, q16, q24, q17, q25, q18, q26, q19, q27, q20, q28, q21, q29, q30, q31, q32, q33, q34, q35, q36, q37, q38, q39, q12, q13, q3, q52, q60, q53, q61, q54, q62, q55, q63, q56, q64, q57, q65, q58, q66, q59, q67, q68, q69, q70, q71, q72, q73, q74, q75, q76, q77, q50, q51, q4, q5, q89, q99, q90, q100, q91, q101, q92, q102, q93, q103, q94, q104, q95, q105, q96, q106, q97, q107, q98, q108, q88, q6, q7, q120, q122, q123, q124, q8, q9, q10, q1, q129].Nodup := nd_of hD2
  have hne : ¬ q129 = q1 := last2 (show ([q130, q131, q132, q133, q134, q135, q136, q137, q138, q139, q140, q141, q142, q143, q144, q145, q146, q147, q2, q14, q22, q15, q23, q16, q24, q17, q25, q18, q26, q19, q27, q20, q28, q21, q29, q30, q31, q32, q33, q34, q35, q36, q37, q38, q39, q12, q13, q3, q52, q60, q53, q61, q54, q62, q55, q63, q56, q64, q57, q65, q58, q66, q59, q67, q68, q69, q70, q71, q72, q73, q74, q75, q76, q77, q50, q51, q4, q5, q89, q99, q90, q100, q91, q101, q92, q102, q93, q103, q94, q104, q95, q105, q96, q106, q97, q107, q98, q108, q88, q6, q7, q120, q122, q123, q124, q8, q9, q10] ++ [q1, q129]).Nodup from N0)
  have O0 : ∀ y ∈ [q130, q131, q132, q133, q134, q135, q136, q137, q138, q139, q140, q141, q142, q143, q144, q145, q146, q147, q2, q14, q22, q15, q23, q16, q24, q17, q25, q18, q26, q19, q27, q20, q28, q21, q29, q30, q31, q32, q33, q34, q35, q36, q37, q38, q39, q12, q13, q3, q52, q60, q53, q61, q54, q62, q55, q63, q56, q64, q57, q65, q58, q66, q59, q67, q68, q69, q70, q71, q72, q73, q74, q75, q76, q77, q50, q51, q4, q5, q89, q99, q90, q100, q91, q101, q92, q102, q93, q103, q94, q104, q95, q105, q96, q106, q97, q107, q98, q108, q88, q6, q7, q120, q122, q123, q124, q8, q9, q10, q1, q129], y ∉ ([] : List Nat) ∧ (fun q : Nat => s.heap.size ≤ q) y := fun y hy => ⟨List.not_mem_nil, inA hD2 hy⟩
  have hB9 : (999 : Int) ≤ 999 ∧ (999 : Int) ≤ 6000000 := ⟨by decide, by decide⟩
  have p0 := PO_0 (D := (dC, dI)) (cs := (csF k11 k126 k42 k40 k41 k127 k158)) (A := (fun q : Nat => s.heap.size ≤ q)) (H := H) hne
  obtain ⟨P1, p1, e1, aq1, O1, N1⟩ := st1n (κ := 18) (g := 0) (fi := fun _ => 0) (fj := fun _ => 0) (fq := fun _ => none) p0 O0 N0 (by simp) (by simp) (hP.sub [92] rfl) rfl (okI_z hB9 18) trivial
  have at_q130 := aq1
  obtain ⟨P2, p2, e2, aq2, O2, N2⟩ := st1n (κ := 28) (g := 0) (fi := fun _ => 0) (fj := fun _ => 0) (fq := fun _ => none) p1 O1 N1 (by simp) (by simp) (hP.sub [93] rfl) rfl (okI_z hB9 28) trivial
  have at_q130 := e2.at at_q130
  have at_q131 := aq2
  obtain ⟨P3, p3, e3, aq3, O3, N3⟩ := st1n (κ := 30) (g := 0) (fi := fun _ => 0) (fj := fun _ => 0) (fq := fun _ => none) p2 O2 N2 (by simp) (by simp) (hP.sub [94] rfl) rfl (okI_z hB9 30) trivial
  have at_q130 := e3.at at_q130
  have at_q131 := e3.at at_q131
  have at_q132 := aq3
  obtain ⟨P4, p4, e4, aq4, O4, N4⟩ := st1n (κ := 19) (g := 0) (fi := fun _ => 0) (fj := fun _ => 0) (fq := fun _ => none) p3 O3 N3 (by simp) (by simp) (hP.sub [95] rfl) rfl (okI_z hB9 19) trivial
  have at_q130 := e4.at at_q130
  have at_q131 := e4.at at_q131
  have at_q132 := e4.at at_q132
  have at_q133 := aq4
  obtain ⟨P5, p5, e5, aq5, O5, N5⟩ := st1n (κ := 20) (g := 0) (fi := fun _ => 0) (fj := fun _ => 0) (fq := fun _ => none) p4 O4 N4 (by simp) (by simp) (hP.sub [96] rfl) rfl (okI_z hB9 20) trivial
  have at_q130 := e5.at at_q130
  have at_q131 := e5.at at_q131
  have at_q132 := e5.at at_q132
  have at_q133 := e5.at at_q133
  have at_q134 := aq5
  obtain ⟨P6, p6, e6, aq6, O6, N6⟩ := st1n (κ := 21) (g := 0) (fi := fun _ => 0) (fj := fun _ => 0) (fq := fun _ => none) p5 O5 N5 (by simp) (by simp) (hP.sub [97] rfl) rfl (okI_z hB9 21) trivial
  have at_q130 := e6.at at_q130
  have at_q131 := e6.at at_q131
  have at_q132 := e6.at at_q132
  have at_q133 := e6.at at_q133
  have at_q134 := e6.at at_q134
  have at_q135 := aq6
  obtain ⟨P7, p7, e7, aq7, O7, N7⟩ := st1n (κ := 21) (g := 0) (fi := fun _ => 0) (fj := fun _ => 0) (fq := fun _ => none) p6 O6 N6 (by simp) (by simp) (hP.sub [98] rfl) rfl (okI_z hB9 21) trivial
  have at_q130 := e7.at at_q130
  have at_q131 := e7.at at_q131
  have at_q132 := e7.at at_q132
  have at_q133 := e7.at at_q133
  have at_q134 := e7.at at_q134
  have at_q135 := e7.at at_q135
  have at_q136 := aq7
  obtain ⟨P8, p8, e8, aq8, O8, N8⟩ := st1n (κ := 21) (g := 0) (fi := fun _ => 0) (fj := fun _ => 0) (fq := fun _ => none) p7 O7 N7 (by simp) (by simp) (hP.sub [99] rfl) rfl (okI_z hB9 21) trivial
  have at_q130 := e8.at at_q130
  have at_q131 := e8.at at_q131
  have at_q132 := e8.at at_q132
  have at_q133 := e8.at at_q133
  have at_q134 := e8.at at_q134
  have at_q135 := e8.at at_q135
  have at_q136 := e8.at at_q136
  have at_q137 := aq8
  obtain ⟨P9, p9, e9, aq9, O9, N9⟩ := st1n (κ := 22) (g := 0) (fi := fun _ => 0) (fj := fun _ => 0) (fq := fun _ => none) p8 O8 N8 (by simp) (by simp) (hP.sub [100] rfl) rfl (okI_z hB9 22) trivial
  have at_q130 := e9.at at_q130
  have at_q131 := e9.at at_q131
  have at_q132 := e9.at at_q132
  have at_q133 := e9.at at_q133
  have at_q134 := e9.at at_q134
  have at_q135 := e9.at at_q135
  have at_q136 := e9.at at_q136
  have at_q137 := e9.at at_q137
  have at_q138 := aq9
  obtain ⟨P10, p10, e10, aq10, O10, N10⟩ := st1n (κ := 23) (g := 0) (fi := fun _ => 0) (fj := fun _ => 0) (fq := fun _ => none) p9 O9 N9 (by simp) (by simp) (hP.sub [101] rfl) rfl (okI_z hB9 23) trivial
  have at_q130 := e10.at at_q130
  have at_q131 := e10.at at_q131
  have at_q132 := e10.at at_q132
  have at_q133 := e10.at at_q133
  have at_q134 := e10.at at_q134
  have at_q135 := e10.at at_q135
  have at_q136 := e10.at at_q136
  have at_q137 := e10.at at_q137
  have at_q138 := e10.at at_q138
  have at_q139 := aq10
  obtain ⟨P11, p11, e11, aq11, O11, N11⟩ := st1n (κ := 24) (g := 0) (fi := fun _ => 0) (fj := fun _ => 0) (fq := fun _ => none) p10 O10 N10 (by simp) (by simp) (hP.sub [102] rfl) rfl (okI_z hB9 24) trivial
  have at_q130 := e11.at at_q130
  have at_q131 := e11.at at_q131
  have at_q132 := e11.at at_q132
  have at_q133 := e11.at at_q133
  have at_q134 := e11.at at_q134
  have at_q135 := e11.at at_q135
  have at_q136 := e11.at at_q136
  have at_q137 := e11.at at_q137
  have at_q138 := e11.at at_q138
  have at_q139 := e11.at at_q139
  have at_q140 := aq11
  obtain ⟨P12, p12, e12, aq12, O12, N12⟩ := st1n (κ := 10) (g := 0) (fi := fun _ => 0) (fj := fun _ => 0) (fq := fun _ => none) p11 O11 N11 (by simp) (by simp) (hP.sub [103] rfl) rfl (okI_z hB9 10) trivial
  have at_q130 := e12.at at_q130
  have at_q131 := e12.at at_q131
  have at_q132 := e12.at at_q132
  have at_q133 := e12.at at_q133
  have at_q134 := e12.at at_q134
  have at_q135 := e12.at at_q135
  have at_q136 := e12.at at_q136
  have at_q137 := e12.at at_q137
  have at_q138 := e12.at at_q138
  have at_q139 := e12.at at_q139
  have at_q140 := e12.at at_q140
  have at_q141 := aq12
  obtain ⟨P13, p13, e13, aq13, O13, N13⟩ := st1n (κ := 25) (g := 0) (fi := fun _ => 0) (fj := fun _ => 0) (fq := fun _ => none) p12 O12 N12 (by simp) (by simp) (hP.sub [104] rfl) rfl (okI_z hB9 25) trivial
  have at_q130 := e13.at at_q130
  have at_q131 := e13.at at_q131
  have at_q132 := e13.at at_q132
  have at_q133 := e13.at at_q133
  have at_q134 := e13.at at_q134
  have at_q135 := e13.at at_q135
  have at_q136 := e13.at at_q136
  have at_q137 := e13.at at_q137
  have at_q138 := e13.at at_q138
  have at_q139 := e13.at at_q139
  have at_q140 := e13.at at_q140
  have at_q141 := e13.at at_q141
  have at_q142 := aq13
  obtain ⟨P14, p14, e14, aq14, O14, N14⟩ := st1n (κ := 12) (g := 0) (fi := fun _ => 0) (fj := fun _ => 0) (fq := fun _ => none) p13 O13 N13 (by simp) (by simp) (hP.sub [105] rfl) rfl (okI_z hB9 12) trivial
  have at_q130 := e14.at at_q130
  have at_q131 := e14.at at_q131
  have at_q132 := e14.at at_q132
  have at_q133 := e14.at at_q133
  have at_q134 := e14.at at_q134
  have at_q135 := e14.at at_q135
  have at_q136 := e14.at at_q136
  have at_q137 := e14.at at_q137
  have at_q138 := e14.at at_q138
  have at_q139 := e14.at at_q139
  have at_q140 := e14.at at_q140
  have at_q141 := e14.at at_q141
  have at_q142 := e14.at at_q142
  have at_q143 := aq14
  obtain ⟨P15, p15, e15, aq15, O15, N15⟩ := st1n (κ := 26) (g := 0) (fi := fun _ => 0) (fj := fun _ => 0) (fq := fun _ => none) p14 O14 N14 (by simp) (by simp) (hP.sub [106] rfl) rfl (okI_z hB9 26) trivial
  have at_q130 := e15.at at_q130
  have at_q131 := e15.at at_q131
  have at_q132 := e15.at at_q132
  have at_q133 := e15.at at_q133
  have at_q134 := e15.at at_q134
  have at_q135 := e15.at at_q135
  have at_q136 := e15.at at_q136
  have at_q137 := e15.at at_q137
  have at_q138 := e15.at at_q138
  have at_q139 := e15.at at_q139
  have at_q140 := e15.at at_q140
  have at_q141 := e15.at at_q141
  have at_q142 := e15.at at_q142
  have at_q143 := e15.at at_q143
  have at_q144 := aq15
  obtain ⟨P16, p16, e16, aq16, O16, N16⟩ := st1n (κ := 27) (g := 0) (fi := fun _ => 0) (fj := fun _ => 0) (fq := fun _ => none) p15 O15 N15 (by simp) (by simp) (hP.sub [107] rfl) rfl (okI_z hB9 27) trivial
  have at_q130 := e16.at at_q130
  have at_q131 := e16.at at_q131
  have at_q132 := e16.at at_q132
  have at_q133 := e16.at at_q133
  have at_q134 := e16.at at_q134
  have at_q135 := e16.at at_q135
  have at_q136 := e16.at at_q136
  have at_q137 := e16.at at_q137
  have at_q138 := e16.at at_q138
  have at_q139 := e16.at at_q139
  have at_q140 := e16.at at_q140
  have at_q141 := e16.at at_q141
  have at_q142 := e16.at at_q142
  have at_q143 := e16.at at_q143
  have at_q144 := e16.at at_q144
  have at_q145 := aq16
  obtain ⟨P17, p17, e17, aq17, O17, N17⟩ := st1n (κ := 11) (g := 0) (fi := fun _ => 0) (fj := fun _ => 0) (fq := fun _ => none) p16 O16 N16 (by simp) (by simp) (hP.sub [108] rfl) rfl (okI_z hB9 11) trivial
  have at_q130 := e17.at at_q130
  have at_q131 := e17.at at_q131
  have at_q132 := e17.at at_q132
  have at_q133 := e17.at at_q133
  have at_q134 := e17.at at_q134
  have at_q135 := e17.at at_q135
  have at_q136 := e17.at at_q136
  have at_q137 := e17.at at_q137
  have at_q138 := e17.at at_q138
  have at_q139 := e17.at at_q139
  have at_q140 := e17.at at_q140
  have at_q141 := e17.at at_q141
  have at_q142 := e17.at at_q142
  have at_q143 := e17.at at_q143
  have at_q144 := e17.at at_q144
  have at_q145 := e17.at at_q145
  have at_q146 := aq17
  obtain ⟨P18, p18, e18, aq18, O18, N18⟩ := st1n (κ := 29) (g := 0) (fi := fun _ => 0) (fj := fun _ => 0) (fq := fun _ => none) p17 O17 N17 (by simp) (by simp) (hP.sub [109] rfl) rfl (okI_z hB9 29) trivial
  have at_q130 := e18.at at_q130
  have at_q131 := e18.at at_q131
  have at_q132 := e18.at at_q132
  have at_q133 := e18.at at_q133
  have at_q134 := e18.at at_q134
  have at_q135 := e18.at at_q135
  have at_q136 := e18.at at_q136
  have at_q137 := e18.at at_q137
  have at_q138 := e18.at at_q138
  have at_q139 := e18.at at_q139
  have at_q140 := e18.at at_q140
  have at_q141 := e18.at at_q141
  have at_q142 := e18.at at_q142
  have at_q143 := e18.at at_q143
  have at_q144 := e18.at at_q144
  have at_q145 := e18.at at_q145
  have at_q146 := e18.at at_q146
  have at_q147 := aq18
  obtain ⟨P19, p19, e19, aq19, O19, N19⟩ := st1n (κ := 10) (g := 0) (fi := fun _ => 0) (fj := fun _ => 0) (fq := fun _ => none) p18 O18 N18 (by simp) (by simp) (hP.sub [1] rfl) rfl (okI_z hB9 10) trivial
  have at_q130 := e19.at at_q130
  have at_q131 := e19.at at_q131
  have at_q132 := e19.at at_q132
  have at_q133 := e19.at at_q133
  have at_q134 := e19.at at_q134
  have at_q135 := e19.at at_q135
  have at_q136 := e19.at at_q136
  have at_q137 := e19.at at_q137
  have at_q138 := e19.at at_q138
  have at_q139 := e19.at at_q139
  have at_q140 := e19.at at_q140
  have at_q141 := e19.at at_q141
  have at_q142 := e19.at at_q142
  have at_q143 := e19.at at_q143
  have at_q144 := e19.at at_q144
  have at_q145 := e19.at at_q145
  have at_q146 := e19.at at_q146
  have at_q147 := e19.at at_q147
  have at_q2 := aq19
  obtain ⟨P20, p20, e20, aq20, O20, N20⟩ := stFd p19 1 (q := q3) (am := q12) (ab := q13) (ms := [(q14, q22), (q15, q23), (q16, q24), (q17, q25), (q18, q26), (q19, q27), (q20, q28), (q21, q29)]) (bs := [q30, q31, q32, q33, q34, q35, q36, q37, q38, q39]) rfl rfl (rest := [q52, q60, q53, q61, q54, q62, q55, q63, q56, q64, q57, q65, q58, q66, q59, q67, q68, q69, q70, q71, q72, q73, q74, q75, q76, q77, q50, q51, q4, q5, q89, q99, q90, q100, q91, q101, q92, q102, q93, q103, q94, q104, q95, q105, q96, q106, q97, q107, q98, q108, q88, q6, q7, q120, q122, q123, q124, q8, q9, q10, q1, q129]) O19 N19 (by simp) (by simp) (hP.sub [2] rfl) (hP.sub [3] rfl) (hP.sub [4] rfl) (by
    intro r hr
    simp only [List.mem_cons, List.not_mem_nil, or_false] at hr
    rcases hr with rfl | rfl | rfl | rfl | rfl | rfl | rfl | rfl
    · exact ⟨hP.sub [5] rfl, hP.sub [6] rfl⟩
    · exact ⟨hP.sub [7] rfl, hP.sub [8] rfl⟩
    · exact ⟨hP.sub [9] rfl, hP.sub [10] rfl⟩
    · exact ⟨hP.sub [11] rfl, hP.sub [12] rfl⟩
    · exact ⟨hP.sub [13] rfl, hP.sub [14] rfl⟩
    · exact ⟨hP.sub [15] rfl, hP.sub [16] rfl⟩
    · exact ⟨hP.sub [17] rfl, hP.sub [18] rfl⟩
    · exact ⟨hP.sub [19] rfl, hP.sub [20] rfl⟩) (by
    intro r hr
    simp only [List.mem_cons, List.not_mem_nil, or_false] at hr
    rcases hr with rfl | rfl | rfl | rfl | rfl | rfl | rfl | rfl | rfl | rfl
    · exact hP.sub [21] rfl
    · exact hP.sub [22] rfl
    · exact hP.sub [23] rfl
    · exact hP.sub [24] rfl
    · exact hP.sub [25] rfl
    · exact hP.sub [26] rfl
    · exact hP.sub [27] rfl
    · exact hP.sub [28] rfl
    · exact hP.sub [29] rfl
    · exact hP.sub [30] rfl)
  have at_q130 := e20.at at_q130
  have at_q131 := e20.at at_q131
  have at_q132 := e20.at at_q132
  have at_q133 := e20.at at_q133
  have at_q134 := e20.at at_q134
  have at_q135 := e20.at at_q135
  have at_q136 := e20.at at_q136
  have at_q137 := e20.at at_q137
  have at_q138 := e20.at at_q138
  have at_q139 := e20.at at_q139
  have at_q140 := e20.at at_q140
  have at_q141 := e20.at at_q141
  have at_q142 := e20.at at_q142
  have at_q143 := e20.at at_q143
  have at_q144 := e20.at at_q144
  have at_q145 := e20.at at_q145
  have at_q146 := e20.at at_q146
  have at_q147 := e20.at at_q147
  have at_q2 := e20.at at_q2
  have at_q3 := aq20
  obtain ⟨P21, p21, e21, aq21, O21, N21⟩ := stFd p20 3 (q := q4) (am := q50) (ab := q51) (ms := [(q52, q60), (q53, q61), (q54, q62), (q55, q63), (q56, q64), (q57, q65), (q58, q66), (q59, q67)]) (bs := [q68, q69, q70, q71, q72, q73, q74, q75, q76, q77]) rfl rfl (rest := [q5, q89, q99, q90, q100, q91, q101, q92, q102, q93, q103, q94, q104, q95, q105, q96, q106, q97, q107, q98, q108, q88, q6, q7, q120, q122, q123, q124, q8, q9, q10, q1, q129]) O20 N20 (by simp) (by simp) (hP.sub [31] rfl) (hP.sub [32] rfl) (hP.sub [33] rfl) (by
    intro r hr
    simp only [List.mem_cons, List.not_mem_nil, or_false] at hr
    rcases hr with rfl | rfl | rfl | rfl | rfl | rfl | rfl | rfl
    · exact ⟨hP.sub [34] rfl, hP.sub [35] rfl⟩
    · exact ⟨hP.sub [36] rfl, hP.sub [37] rfl⟩
    · exact ⟨hP.sub [38] rfl, hP.sub [39] rfl⟩
    · exact ⟨hP.sub [40] rfl, hP.sub [41] rfl⟩
    · exact ⟨hP.sub [42] rfl, hP.sub [43] rfl⟩
    · exact ⟨hP.sub [44] rfl, hP.sub [45] rfl⟩
    · exact ⟨hP.sub [46] rfl, hP.sub [47] rfl⟩
    · exact ⟨hP.sub [48] rfl, hP.sub [49] rfl⟩) (by
    intro r hr
    simp only [List.mem_cons, List.not_mem_nil, or_false] at hr
    rcases hr with rfl | rfl | rfl | rfl | rfl | rfl | rfl | rfl | rfl | rfl
    · exact hP.sub [50] rfl
    · exact hP.sub [51] rfl
    · exact hP.sub [52] rfl
    · exact hP.sub [53] rfl
    · exact hP.sub [54] rfl
    · exact hP.sub [55] rfl
    · exact hP.sub [56] rfl
    · exact hP.sub [57] rfl
    · exact hP.sub [58] rfl
    · exact hP.sub [59] rfl)
  have at_q130 := e21.at at_q130
  have at_q131 := e21.at at_q131
  have at_q132 := e21.at at_q132
  have at_q133 := e21.at at_q133
  have at_q134 := e21.at at_q134
  have at_q135 := e21.at at_q135
  have at_q136 := e21.at at_q136
  have at_q137 := e21.at at_q137
  have at_q138 := e21.at at_q138
  have at_q139 := e21.at at_q139
  have at_q140 := e21.at at_q140
  have at_q141 := e21.at at_q141
  have at_q142 := e21.at at_q142
  have at_q143 := e21.at at_q143
  have at_q144 := e21.at at_q144
  have at_q145 := e21.at at_q145
  have at_q146 := e21.at at_q146
  have at_q147 := e21.at at_q147
  have at_q2 := e21.at at_q2
  have at_q3 := e21.at at_q3
  have at_q4 := aq21
  obtain ⟨P22, p22, e22, aq22, O22, N22⟩ := st1n (κ := 4) (g := 0) (fi := fun _ => 0) (fj := fun _ => 0) (fq := fun k => if k = 0 then some q2 else (none)) p21 O21 N21 (by simp) (by simp) (hP.sub [60] rfl) rfl (okI_z hB9 4) ⟨q2, rfl, at_q2.1, at_q2.2.1⟩
  have at_q130 := e22.at at_q130
  have at_q131 := e22.at at_q131
  have at_q132 := e22.at at_q132
  have at_q133 := e22.at at_q133
  have at_q134 := e22.at at_q134
  have at_q135 := e22.at at_q135
  have at_q136 := e22.at at_q136
  have at_q137 := e22.at at_q137
  have at_q138 := e22.at at_q138
  have at_q139 := e22.at at_q139
  have at_q140 := e22.at at_q140
  have at_q141 := e22.at at_q141
  have at_q142 := e22.at at_q142
  have at_q143 := e22.at at_q143
  have at_q144 := e22.at at_q144
  have at_q145 := e22.at at_q145
  have at_q146 := e22.at at_q146
  have at_q147 := e22.at at_q147
  have at_q2 := e22.at at_q2
  have at_q3 := e22.at at_q3
  have at_q4 := e22.at at_q4
  have at_q5 := aq22
  have nd23 := fst_nd [(q89, q99), (q90, q100), (q91, q101), (q92, q102), (q93, q103), (q94, q104), (q95, q105), (q96, q106), (q97, q107), (q98, q108)] (List.nodup_append.mp (show ([(q89, q99), (q90, q100), (q91, q101), (q92, q102), (q93, q103), (q94, q104), (q95, q105), (q96, q106), (q97, q107), (q98, q108)].flatMap (fun q => [q.1, q.2]) ++ [q88, q6, q7, q120, q122, q123, q124, q8, q9, q10, q1, q129]).Nodup from N22)).1
  obtain ⟨P23, p23, e23, aq23, O23, N23⟩ := stMs p22 0 [(q89, q99), (q90, q100), (q91, q101), (q92, q102), (q93, q103), (q94, q104), (q95, q105), (q96, q106), (q97, q107), (q98, q108)] (rest := [q88, q6, q7, q120, q122, q123, q124, q8, q9, q10, q1, q129]) O22 N22 (by simp) (by simp) (by
    intro r hr
    simp only [List.mem_cons, List.not_mem_nil, or_false] at hr
    rcases hr with rfl | rfl | rfl | rfl | rfl | rfl | rfl | rfl | rfl | rfl
    · exact ⟨hP.sub [63] rfl, hP.sub [64] rfl⟩
    · exact ⟨hP.sub [65] rfl, hP.sub [66] rfl⟩
    · exact ⟨hP.sub [67] rfl, hP.sub [68] rfl⟩
    · exact ⟨hP.sub [69] rfl, hP.sub [70] rfl⟩
    · exact ⟨hP.sub [71] rfl, hP.sub [72] rfl⟩
    · exact ⟨hP.sub [73] rfl, hP.sub [74] rfl⟩
    · exact ⟨hP.sub [75] rfl, hP.sub [76] rfl⟩
    · exact ⟨hP.sub [77] rfl, hP.sub [78] rfl⟩
    · exact ⟨hP.sub [79] rfl, hP.sub [80] rfl⟩
    · exact ⟨hP.sub [81] rfl, hP.sub [82] rfl⟩)
  have at_q130 := e23.at at_q130
  have at_q131 := e23.at at_q131
  have at_q132 := e23.at at_q132
  have at_q133 := e23.at at_q133
  have at_q134 := e23.at at_q134
  have at_q135 := e23.at at_q135
  have at_q136 := e23.at at_q136
  have at_q137 := e23.at at_q137
  have at_q138 := e23.at at_q138
  have at_q139 := e23.at at_q139
  have at_q140 := e23.at at_q140
  have at_q141 := e23.at at_q141
  have at_q142 := e23.at at_q142
  have at_q143 := e23.at at_q143
  have at_q144 := e23.at at_q144
  have at_q145 := e23.at at_q145
  have at_q146 := e23.at at_q146
  have at_q147 := e23.at at_q147
  have at_q2 := e23.at at_q2
  have at_q3 := e23.at at_q3
  have at_q4 := e23.at at_q4
  have at_q5 := e23.at at_q5
  obtain ⟨P24, p24, e24, aq24, O24, N24⟩ := st1n (κ := 15) (g := 0) (fi := fun _ => 0) (fj := fun _ => 0) (fq := rl ([(q89, q99), (q90, q100), (q91, q101), (q92, q102), (q93, q103), (q94, q104), (q95, q105), (q96, q106), (q97, q107), (q98, q108)].map Prod.fst)) p23 O23 N23 (by simp) (by simp) (hP.sub [62] rfl) rfl (okI_z hB9 15) ⟨fun i hi => by obtain ⟨y, q1, q2, q3, q4⟩ := rl_all (P := P23) (l := [(q89, q99), (q90, q100), (q91, q101), (q92, q102), (q93, q103), (q94, q104), (q95, q105), (q96, q106), (q97, q107), (q98, q108)].map Prod.fst) (κ := 3) (g := 0) rfl (fun y hy => by obtain ⟨q, hq, rfl⟩ := List.mem_map.mp hy; exact aq23 q hq) i hi; exact ⟨y, q1, q2, q3⟩, rl_inj rfl nd23⟩
  have at_q130 := e24.at at_q130
  have at_q131 := e24.at at_q131
  have at_q132 := e24.at at_q132
  have at_q133 := e24.at at_q133
  have at_q134 := e24.at at_q134
  have at_q135 := e24.at at_q135
  have at_q136 := e24.at at_q136
  have at_q137 := e24.at at_q137
  have at_q138 := e24.at at_q138
  have at_q139 := e24.at at_q139
  have at_q140 := e24.at at_q140
  have at_q141 := e24.at at_q141
  have at_q142 := e24.at at_q142
  have at_q143 := e24.at at_q143
  have at_q144 := e24.at at_q144
  have at_q145 := e24.at at_q145
  have at_q146 := e24.at at_q146
  have at_q147 := e24.at at_q147
  have at_q2 := e24.at at_q2
  have at_q3 := e24.at at_q3
  have at_q4 := e24.at at_q4
  have at_q5 := e24.at at_q5
  have at_q88 := aq24
  obtain ⟨P25, p25, e25, aq25, O25, N25⟩ := st1n (κ := 5) (g := 1) (fi := fun k => if k = 3 then -1 else 0) (fj := fun _ => 0) (fq := fun k => if k = 0 then some q3 else (if k = 1 then some q88 else (none))) p24 O24 N24 (by simp) (by simp) (hP.sub [61] rfl) rfl ((show bI _ 2 0 300 from ⟨by decide +kernel, by decide +kernel⟩)) ⟨⟨q3, rfl, at_q3.1, at_q3.2.1, at_q3.2.2⟩, ⟨q88, rfl, at_q88.1, at_q88.2.1⟩⟩
  have at_q130 := e25.at at_q130
  have at_q131 := e25.at at_q131
  have at_q132 := e25.at at_q132
  have at_q133 := e25.at at_q133
  have at_q134 := e25.at at_q134
  have at_q135 := e25.at at_q135
  have at_q136 := e25.at at_q136
  have at_q137 := e25.at at_q137
  have at_q138 := e25.at at_q138
  have at_q139 := e25.at at_q139
  have at_q140 := e25.at at_q140
  have at_q141 := e25.at at_q141
  have at_q142 := e25.at at_q142
  have at_q143 := e25.at at_q143
  have at_q144 := e25.at at_q144
  have at_q145 := e25.at at_q145
  have at_q146 := e25.at at_q146
  have at_q147 := e25.at at_q147
  have at_q2 := e25.at at_q2
  have at_q3 := e25.at at_q3
  have at_q4 := e25.at at_q4
  have at_q5 := e25.at at_q5
  have at_q88 := e25.at at_q88
  have at_q6 := aq25
  have nd26 := fst_nd [(q7, q120)] (List.nodup_append.mp (show ([(q7, q120)].flatMap (fun q => [q.1, q.2]) ++ [q122, q123, q124, q8, q9, q10, q1, q129]).Nodup from N25)).1
  obtain ⟨P26, p26, e26, aq26, O26, N26⟩ := stMs p25 0 [(q7, q120)] (rest := [q122, q123, q124, q8, q9, q10, q1, q129]) O25 N25 (by simp) (by simp) (by
    intro r hr
    simp only [List.mem_cons, List.not_mem_nil, or_false] at hr
    subst hr
    exact ⟨hP.sub [83] rfl, hP.sub [84] rfl⟩)
  have at_q130 := e26.at at_q130
  have at_q131 := e26.at at_q131
  have at_q132 := e26.at at_q132
  have at_q133 := e26.at at_q133
  have at_q134 := e26.at at_q134
  have at_q135 := e26.at at_q135
  have at_q136 := e26.at at_q136
  have at_q137 := e26.at at_q137
  have at_q138 := e26.at at_q138
  have at_q139 := e26.at at_q139
  have at_q140 := e26.at at_q140
  have at_q141 := e26.at at_q141
  have at_q142 := e26.at at_q142
  have at_q143 := e26.at at_q143
  have at_q144 := e26.at at_q144
  have at_q145 := e26.at at_q145
  have at_q146 := e26.at at_q146
  have at_q147 := e26.at at_q147
  have at_q2 := e26.at at_q2
  have at_q3 := e26.at at_q3
  have at_q4 := e26.at at_q4
  have at_q5 := e26.at at_q5
  have at_q88 := e26.at at_q88
  have at_q6 := e26.at at_q6
  have at_q7 := aq26 _ List.mem_cons_self
  have nd27 := fst_nd [(q122, q123)] (List.nodup_append.mp (show ([(q122, q123)].flatMap (fun q => [q.1, q.2]) ++ [q124, q8, q9, q10, q1, q129]).Nodup from N26)).1
  obtain ⟨P27, p27, e27, aq27, O27, N27⟩ := stMs p26 0 [(q122, q123)] (rest := [q124, q8, q9, q10, q1, q129]) O26 N26 (by simp) (by simp) (by
    intro r hr
    simp only [List.mem_cons, List.not_mem_nil, or_false] at hr
    subst hr
    exact ⟨hP.sub [86] rfl, hP.sub [87] rfl⟩)
  have at_q130 := e27.at at_q130
  have at_q131 := e27.at at_q131
  have at_q132 := e27.at at_q132
  have at_q133 := e27.at at_q133
  have at_q134 := e27.at at_q134
  have at_q135 := e27.at at_q135
  have at_q136 := e27.at at_q136
  have at_q137 := e27.at at_q137
  have at_q138 := e27.at at_q138
  have at_q139 := e27.at at_q139
  have at_q140 := e27.at at_q140
  have at_q141 := e27.at at_q141
  have at_q142 := e27.at at_q142
  have at_q143 := e27.at at_q143
  have at_q144 := e27.at at_q144
  have at_q145 := e27.at at_q145
  have at_q146 := e27.at at_q146
  have at_q147 := e27.at at_q147
  have at_q2 := e27.at at_q2
  have at_q3 := e27.at at_q3
  have at_q4 := e27.at at_q4
  have at_q5 := e27.at at_q5
  have at_q88 := e27.at at_q88
  have at_q6 := e27.at at_q6
  have at_q7 := e27.at at_q7
  have at_q122 := aq27 _ List.mem_cons_self
  obtain ⟨P28, p28, e28, aq28, O28, N28⟩ := st1n (κ := 11) (g := 0) (fi := fun _ => 0) (fj := fun _ => 0) (fq := fun _ => none) p27 O27 N27 (by simp) (by simp) (hP.sub [88] rfl) rfl (okI_z hB9 11) trivial
  have at_q130 := e28.at at_q130
  have at_q131 := e28.at at_q131
  have at_q132 := e28.at at_q132
  have at_q133 := e28.at at_q133
  have at_q134 := e28.at at_q134
  have at_q135 := e28.at at_q135
  have at_q136 := e28.at at_q136
  have at_q137 := e28.at at_q137
  have at_q138 := e28.at at_q138
  have at_q139 := e28.at at_q139
  have at_q140 := e28.at at_q140
  have at_q141 := e28.at at_q141
  have at_q142 := e28.at at_q142
  have at_q143 := e28.at at_q143
  have at_q144 := e28.at at_q144
  have at_q145 := e28.at at_q145
  have at_q146 := e28.at at_q146
  have at_q147 := e28.at at_q147
  have at_q2 := e28.at at_q2
  have at_q3 := e28.at at_q3
  have at_q4 := e28.at at_q4
  have at_q5 := e28.at at_q5
  have at_q88 := e28.at at_q88
  have at_q6 := e28.at at_q6
  have at_q7 := e28.at at_q7
  have at_q122 := e28.at at_q122
  have at_q124 := aq28
  obtain ⟨P29, p29, e29, aq29, O29, N29⟩ := st1n (κ := 2) (g := 0) (fi := fun _ => 0) (fj := fun _ => 0) (fq := fun k => if k = 0 then some q122 else (if k = 1 then some q124 else (none))) p28 O28 N28 (by simp) (by simp) (hP.sub [85] rfl) rfl (okI_z hB9 2) ⟨⟨q122, rfl, at_q122.1, at_q122.2.1⟩, ⟨q124, rfl, at_q124.1, at_q124.2.1⟩⟩
  have at_q130 := e29.at at_q130
  have at_q131 := e29.at at_q131
  have at_q132 := e29.at at_q132
  have at_q133 := e29.at at_q133
  have at_q134 := e29.at at_q134
  have at_q135 := e29.at at_q135
  have at_q136 := e29.at at_q136
  have at_q137 := e29.at at_q137
  have at_q138 := e29.at at_q138
  have at_q139 := e29.at at_q139
  have at_q140 := e29.at at_q140
  have at_q141 := e29.at at_q141
  have at_q142 := e29.at at_q142
  have at_q143 := e29.at at_q143
  have at_q144 := e29.at at_q144
  have at_q145 := e29.at at_q145
  have at_q146 := e29.at at_q146
  have at_q147 := e29.at at_q147
  have at_q2 := e29.at at_q2
  have at_q3 := e29.at at_q3
  have at_q4 := e29.at at_q4
  have at_q5 := e29.at at_q5
  have at_q88 := e29.at at_q88
  have at_q6 := e29.at at_q6
  have at_q7 := e29.at at_q7
  have at_q122 := e29.at at_q122
  have at_q124 := e29.at at_q124
  have at_q8 := aq29
  obtain ⟨P30, p30, e30, aq30, O30, N30⟩ := st1n (κ := 16) (g := 0) (fi := fun _ => 0) (fj := fun _ => 0) (fq := fun _ => none) p29 O29 N29 (by simp) (by simp) (hP.sub [89] rfl) rfl (okI_z hB9 16) (fun i hi => Or.inl rfl)
  have at_q130 := e30.at at_q130
  have at_q131 := e30.at at_q131
  have at_q132 := e30.at at_q132
  have at_q133 := e30.at at_q133
  have at_q134 := e30.at at_q134
  have at_q135 := e30.at at_q135
  have at_q136 := e30.at at_q136
  have at_q137 := e30.at at_q137
  have at_q138 := e30.at at_q138
  have at_q139 := e30.at at_q139
  have at_q140 := e30.at at_q140
  have at_q141 := e30.at at_q141
  have at_q142 := e30.at at_q142
  have at_q143 := e30.at at_q143
  have at_q144 := e30.at at_q144
  have at_q145 := e30.at at_q145
  have at_q146 := e30.at at_q146
  have at_q147 := e30.at at_q147
  have at_q2 := e30.at at_q2
  have at_q3 := e30.at at_q3
  have at_q4 := e30.at at_q4
  have at_q5 := e30.at at_q5
  have at_q88 := e30.at at_q88
  have at_q6 := e30.at at_q6
  have at_q7 := e30.at at_q7
  have at_q122 := e30.at at_q122
  have at_q124 := e30.at at_q124
  have at_q8 := e30.at at_q8
  have at_q9 := aq30
  obtain ⟨P31, p31, e31, aq31, O31, N31⟩ := st1n (κ := 17) (g := 0) (fi := fun _ => 0) (fj := fun _ => 0) (fq := fun _ => none) p30 O30 N30 (by simp) (by simp) (hP.sub [90] rfl) rfl (okI_z hB9 17) (fun i hi => Or.inl rfl)
  have at_q130 := e31.at at_q130
  have at_q131 := e31.at at_q131
  have at_q132 := e31.at at_q132
  have at_q133 := e31.at at_q133
  have at_q134 := e31.at at_q134
  have at_q135 := e31.at at_q135
  have at_q136 := e31.at at_q136
  have at_q137 := e31.at at_q137
  have at_q138 := e31.at at_q138
  have at_q139 := e31.at at_q139
  have at_q140 := e31.at at_q140
  have at_q141 := e31.at at_q141
  have at_q142 := e31.at at_q142
  have at_q143 := e31.at at_q143
  have at_q144 := e31.at at_q144
  have at_q145 := e31.at at_q145
  have at_q146 := e31.at at_q146
  have at_q147 := e31.at at_q147
  have at_q2 := e31.at at_q2
  have at_q3 := e31.at at_q3
  have at_q4 := e31.at at_q4
  have at_q5 := e31.at at_q5
  have at_q88 := e31.at at_q88
  have at_q6 := e31.at at_q6
  have at_q7 := e31.at at_q7
  have at_q122 := e31.at at_q122
  have at_q124 := e31.at at_q124
  have at_q8 := e31.at at_q8
  have at_q9 := e31.at at_q9
  have at_q10 := aq31
  obtain ⟨P32, p32, e32, aq32, O32, N32⟩ := st1 (κ := 6) (g := 0) (fi := fun _ => 0) (fj := fun _ => 0) (fq := fun k => if k = 0 then some q2 else (if k = 2 then some q3 else (if k = 3 then some q4 else (if k = 4 then some q5 else (if k = 5 then some q6 else (if k = 6 then some q7 else (if k = 7 then some q8 else (if k = 8 then some q9 else (if k = 11 then some q10 else (none)))))))))) p31 O31 N31 (hP.sub [0] rfl) rfl (okI_z hB9 6) ⟨⟨q2, rfl, at_q2.1, at_q2.2.1⟩, ⟨q3, rfl, at_q3.1, at_q3.2.1, at_q3.2.2⟩, ⟨q4, rfl, at_q4.1, at_q4.2.1⟩, ⟨q5, rfl, at_q5.1, at_q5.2.1⟩, ⟨q6, rfl, at_q6.1, at_q6.2.1, at_q6.2.2⟩, ⟨q7, rfl, at_q7.1, at_q7.2.1⟩, ⟨q8, rfl, at_q8.1, at_q8.2.1⟩, ⟨q9, rfl, at_q9.1, at_q9.2.1⟩, ⟨q10, rfl, at_q10.1, at_q10.2.1⟩⟩ (fun _ => ⟨rfl, rfl⟩) (fun z => absurd z.symm hne)
  have at_q130 := e32.at at_q130
  have at_q131 := e32.at at_q131
  have at_q132 := e32.at at_q132
  have at_q133 := e32.at at_q133
  have at_q134 := e32.at at_q134
  have at_q135 := e32.at at_q135
  have at_q136 := e32.at at_q136
  have at_q137 := e32.at at_q137
  have at_q138 := e32.at at_q138
  have at_q139 := e32.at at_q139
  have at_q140 := e32.at at_q140
  have at_q141 := e32.at at_q141
  have at_q142 := e32.at at_q142
  have at_q143 := e32.at at_q143
  have at_q144 := e32.at at_q144
  have at_q145 := e32.at at_q145
  have at_q146 := e32.at at_q146
  have at_q147 := e32.at at_q147
  have at_q2 := e32.at at_q2
  have at_q3 := e32.at at_q3
  have at_q4 := e32.at at_q4
  have at_q5 := e32.at at_q5
  have at_q88 := e32.at at_q88
  have at_q6 := e32.at at_q6
  have at_q7 := e32.at at_q7
  have at_q122 := e32.at at_q122
  have at_q124 := e32.at at_q124
  have at_q8 := e32.at at_q8
  have at_q9 := e32.at at_q9
  have at_q10 := e32.at at_q10
  have at_q1 := aq32
  obtain ⟨P33, p33, e33, aq33, O33, N33⟩ := st1 (κ := 7) (g := 0) (fi := fun _ => 0) (fj := fun _ => 0) (fq := fun k => if k = 0 then some q130 else (if k = 1 then some q131 else (if k = 2 then some q132 else (if k = 3 then some q133 else (if k = 4 then some q134 else (if k = 5 then some q135 else (if k = 6 then some q136 else (if k = 7 then some q137 else (if k = 8 then some q138 else (if k = 9 then some q139 else (if k = 10 then some q140 else (if k = 12 then some q141 else (if k = 17 then some q142 else (if k = 19 then some q143 else (if k = 20 then some q144 else (if k = 21 then some q145 else (if k = 22 then some q146 else (if k = 25 then some q147 else (none))))))))))))))))))) p32 O32 N32 (hP.sub [91] rfl) rfl (okI_z hB9 7) ⟨⟨q130, rfl, at_q130.1, at_q130.2.1⟩, ⟨q131, rfl, at_q131.1, at_q131.2.1⟩, ⟨q132, rfl, at_q132.1, at_q132.2.1⟩, ⟨q133, rfl, at_q133.1, at_q133.2.1⟩, ⟨q134, rfl, at_q134.1, at_q134.2.1⟩, ⟨q135, rfl, at_q135.1, at_q135.2.1⟩, ⟨q136, rfl, at_q136.1, at_q136.2.1⟩, ⟨q137, rfl, at_q137.1, at_q137.2.1⟩, ⟨q138, rfl, at_q138.1, at_q138.2.1⟩, ⟨q139, rfl, at_q139.1, at_q139.2.1⟩, ⟨q140, rfl, at_q140.1, at_q140.2.1⟩, ⟨q141, rfl, at_q141.1, at_q141.2.1⟩, ⟨q142, rfl, at_q142.1, at_q142.2.1⟩, ⟨q143, rfl, at_q143.1, at_q143.2.1⟩, ⟨q144, rfl, at_q144.1, at_q144.2.1⟩, ⟨q145, rfl, at_q145.1, at_q145.2.1⟩, ⟨q146, rfl, at_q146.1, at_q146.2.1⟩, ⟨q147, rfl, at_q147.1, at_q147.2.1⟩⟩ (fun z => absurd z hne) (fun _ => ⟨rfl, rfl⟩)
  have at_q130 := e33.at at_q130
  have at_q131 := e33.at at_q131
  have at_q132 := e33.at at_q132
  have at_q133 := e33.at at_q133
  have at_q134 := e33.at at_q134
  have at_q135 := e33.at at_q135
  have at_q136 := e33.at at_q136
  have at_q137 := e33.at at_q137
  have at_q138 := e33.at at_q138
  have at_q139 := e33.at at_q139
  have at_q140 := e33.at at_q140
  have at_q141 := e33.at at_q141
  have at_q142 := e33.at at_q142
  have at_q143 := e33.at at_q143
  have at_q144 := e33.at at_q144
  have at_q145 := e33.at at_q145
  have at_q146 := e33.at at_q146
  have at_q147 := e33.at at_q147
  have at_q2 := e33.at at_q2
  have at_q3 := e33.at at_q3
  have at_q4 := e33.at at_q4
  have at_q5 := e33.at at_q5
  have at_q88 := e33.at at_q88
  have at_q6 := e33.at at_q6
  have at_q7 := e33.at at_q7
  have at_q122 := e33.at at_q122
  have at_q124 := e33.at at_q124
  have at_q8 := e33.at at_q8
  have at_q9 := e33.at at_q9
  have at_q10 := e33.at at_q10
  have at_q1 := e33.at at_q1
  have at_q129 := aq33
  obtain ⟨L, K, G, Q, I, J⟩ := P33
  obtain ⟨hQ, hI, hPw, hDw⟩ := p33
  have hl : lv_has ls 4 [(3, .int 0), (2, .ref q129), (1, .ref q1), (0, .ref b)] := lv_sub hl [0, 1, 2, 3] rfl
  obtain ⟨hx, hb, hr, hml, hown, htl, hX, hbl, hlocks, hgv⟩ := id C0
  refine W.base ?_
  exact s_lwloop l C0 hL hKt (xS_of htl hgv (fun a ha => Nat.not_le.mpr ha)) 512 0 0 s.drawn H _ ls 110 27528 rfl (by decide) ⟨L, K, G, Q, I, J, 0, 999, hQ, hI, at_q1.1, at_q129.1, by decide, hDw, pl_in (D := (dC, dI)) (cs := (csF k11 k126 k42 k40 k41 k127 k158)) hDw, hPw, hS, hl, Drawn.sameBut.refl s.drawn lw_cs, by decide, by decide⟩
