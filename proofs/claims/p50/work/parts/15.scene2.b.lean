abbrev cX5_findBest : ByteArray := prog_7_method_24_code
def yX5_findBest : MethodName := ⟨RX5, "findBest", "(II)V"⟩
theorem dX5_findBest_0 : decode cX5_findBest 0 = .ok (.aload_n 0, 1) := by decide +kernel
theorem dX5_findBest_1 : decode cX5_findBest 1 = .ok (.getfield 11, 3) := by decide +kernel
theorem dX5_findBest_4 : decode cX5_findBest 4 = .ok (.iload_n 1, 1) := by decide +kernel
theorem dX5_findBest_5 : decode cX5_findBest 5 = .ok (.aaload, 1) := by decide +kernel
theorem dX5_findBest_6 : decode cX5_findBest 6 = .ok (.astore_n 3, 1) := by decide +kernel
theorem dX5_findBest_7 : decode cX5_findBest 7 = .ok (.aload_n 0, 1) := by decide +kernel
theorem dX5_findBest_8 : decode cX5_findBest 8 = .ok (.getfield 11, 3) := by decide +kernel
theorem dX5_findBest_11 : decode cX5_findBest 11 = .ok (.iload_n 2, 1) := by decide +kernel
theorem dX5_findBest_12 : decode cX5_findBest 12 = .ok (.aaload, 1) := by decide +kernel
theorem dX5_findBest_13 : decode cX5_findBest 13 = .ok (.astore 4, 2) := by decide +kernel
theorem dX5_findBest_15 : decode cX5_findBest 15 = .ok (.aload_n 0, 1) := by decide +kernel
theorem dX5_findBest_16 : decode cX5_findBest 16 = .ok (.getfield 39, 3) := by decide +kernel
theorem dX5_findBest_19 : decode cX5_findBest 19 = .ok (.getfield 49, 3) := by decide +kernel
theorem dX5_findBest_22 : decode cX5_findBest 22 = .ok (.iload_n 2, 1) := by decide +kernel
theorem dX5_findBest_23 : decode cX5_findBest 23 = .ok (.aaload, 1) := by decide +kernel
theorem dX5_findBest_24 : decode cX5_findBest 24 = .ok (.getfield 71, 3) := by decide +kernel
theorem dX5_findBest_27 : decode cX5_findBest 27 = .ok (.istore 5, 2) := by decide +kernel
theorem dX5_findBest_29 : decode cX5_findBest 29 = .ok (.aload_n 0, 1) := by decide +kernel
theorem dX5_findBest_30 : decode cX5_findBest 30 = .ok (.getfield 39, 3) := by decide +kernel
theorem dX5_findBest_33 : decode cX5_findBest 33 = .ok (.getfield 49, 3) := by decide +kernel
theorem dX5_findBest_36 : decode cX5_findBest 36 = .ok (.iload_n 2, 1) := by decide +kernel
theorem dX5_findBest_37 : decode cX5_findBest 37 = .ok (.aaload, 1) := by decide +kernel
theorem dX5_findBest_38 : decode cX5_findBest 38 = .ok (.getfield 86, 3) := by decide +kernel
theorem dX5_findBest_41 : decode cX5_findBest 41 = .ok (.istore 6, 2) := by decide +kernel
theorem dX5_findBest_43 : decode cX5_findBest 43 = .ok (.aload_n 0, 1) := by decide +kernel
theorem dX5_findBest_44 : decode cX5_findBest 44 = .ok (.iconst 0, 1) := by decide +kernel
theorem dX5_findBest_45 : decode cX5_findBest 45 = .ok (.putfield 30, 3) := by decide +kernel
theorem dX5_findBest_48 : decode cX5_findBest 48 = .ok (.aload_n 0, 1) := by decide +kernel
theorem dX5_findBest_49 : decode cX5_findBest 49 = .ok (.aload_n 0, 1) := by decide +kernel
theorem dX5_findBest_50 : decode cX5_findBest 50 = .ok (.getfield 39, 3) := by decide +kernel
theorem dX5_findBest_53 : decode cX5_findBest 53 = .ok (.getfield 49, 3) := by decide +kernel
theorem dX5_findBest_56 : decode cX5_findBest 56 = .ok (.iload_n 1, 1) := by decide +kernel
theorem dX5_findBest_57 : decode cX5_findBest 57 = .ok (.aaload, 1) := by decide +kernel
theorem dX5_findBest_58 : decode cX5_findBest 58 = .ok (.getfield 71, 3) := by decide +kernel
theorem dX5_findBest_61 : decode cX5_findBest 61 = .ok (.putfield 33, 3) := by decide +kernel
theorem dX5_findBest_64 : decode cX5_findBest 64 = .ok (.aload_n 0, 1) := by decide +kernel
theorem dX5_findBest_65 : decode cX5_findBest 65 = .ok (.aload_n 0, 1) := by decide +kernel
theorem dX5_findBest_66 : decode cX5_findBest 66 = .ok (.getfield 39, 3) := by decide +kernel
theorem dX5_findBest_69 : decode cX5_findBest 69 = .ok (.getfield 49, 3) := by decide +kernel
theorem dX5_findBest_72 : decode cX5_findBest 72 = .ok (.iload_n 1, 1) := by decide +kernel
theorem dX5_findBest_73 : decode cX5_findBest 73 = .ok (.aaload, 1) := by decide +kernel
theorem dX5_findBest_74 : decode cX5_findBest 74 = .ok (.getfield 86, 3) := by decide +kernel
theorem dX5_findBest_77 : decode cX5_findBest 77 = .ok (.putfield 36, 3) := by decide +kernel
theorem dX5_findBest_80 : decode cX5_findBest 80 = .ok (.aload_n 3, 1) := by decide +kernel
theorem dX5_findBest_81 : decode cX5_findBest 81 = .ok (.getfield 68, 3) := by decide +kernel
theorem dX5_findBest_84 : decode cX5_findBest 84 = .ok (.ifCond .eq 11, 3) := by decide +kernel
theorem dX5_findBest_87 : decode cX5_findBest 87 = .ok (.aload 4, 2) := by decide +kernel
theorem dX5_findBest_89 : decode cX5_findBest 89 = .ok (.getfield 68, 3) := by decide +kernel
theorem dX5_findBest_92 : decode cX5_findBest 92 = .ok (.ifCond .ne 4, 3) := by decide +kernel
theorem dX5_findBest_95 : decode cX5_findBest 95 = .ok (.return_, 1) := by decide +kernel
theorem dX5_findBest_96 : decode cX5_findBest 96 = .ok (.aload_n 3, 1) := by decide +kernel
theorem dX5_findBest_97 : decode cX5_findBest 97 = .ok (.aload 4, 2) := by decide +kernel
theorem dX5_findBest_99 : decode cX5_findBest 99 = .ok (.aload_n 3, 1) := by decide +kernel
theorem dX5_findBest_100 : decode cX5_findBest 100 = .ok (.getfield 74, 3) := by decide +kernel
theorem dX5_findBest_103 : decode cX5_findBest 103 = .ok (.aload_n 3, 1) := by decide +kernel
theorem dX5_findBest_104 : decode cX5_findBest 104 = .ok (.getfield 77, 3) := by decide +kernel
theorem dX5_findBest_107 : decode cX5_findBest 107 = .ok (.iadd, 1) := by decide +kernel
theorem dX5_findBest_108 : decode cX5_findBest 108 = .ok (.aload 4, 2) := by decide +kernel
theorem dX5_findBest_110 : decode cX5_findBest 110 = .ok (.getfield 74, 3) := by decide +kernel
theorem dX5_findBest_113 : decode cX5_findBest 113 = .ok (.isub, 1) := by decide +kernel
theorem dX5_findBest_114 : decode cX5_findBest 114 = .ok (.aload 4, 2) := by decide +kernel
theorem dX5_findBest_116 : decode cX5_findBest 116 = .ok (.getfield 77, 3) := by decide +kernel
theorem dX5_findBest_119 : decode cX5_findBest 119 = .ok (.isub, 1) := by decide +kernel
theorem dX5_findBest_120 : decode cX5_findBest 120 = .ok (.iconst 2, 1) := by decide +kernel
theorem dX5_findBest_121 : decode cX5_findBest 121 = .ok (.idiv, 1) := by decide +kernel
theorem dX5_findBest_122 : decode cX5_findBest 122 = .ok (.aload_n 3, 1) := by decide +kernel
theorem dX5_findBest_123 : decode cX5_findBest 123 = .ok (.getfield 89, 3) := by decide +kernel
theorem dX5_findBest_126 : decode cX5_findBest 126 = .ok (.aload_n 3, 1) := by decide +kernel
theorem dX5_findBest_127 : decode cX5_findBest 127 = .ok (.getfield 92, 3) := by decide +kernel
theorem dX5_findBest_130 : decode cX5_findBest 130 = .ok (.iadd, 1) := by decide +kernel
theorem dX5_findBest_131 : decode cX5_findBest 131 = .ok (.aload 4, 2) := by decide +kernel
theorem dX5_findBest_133 : decode cX5_findBest 133 = .ok (.getfield 89, 3) := by decide +kernel
theorem dX5_findBest_136 : decode cX5_findBest 136 = .ok (.isub, 1) := by decide +kernel
theorem dX5_findBest_137 : decode cX5_findBest 137 = .ok (.aload 4, 2) := by decide +kernel
theorem dX5_findBest_139 : decode cX5_findBest 139 = .ok (.getfield 92, 3) := by decide +kernel
theorem dX5_findBest_142 : decode cX5_findBest 142 = .ok (.isub, 1) := by decide +kernel
theorem dX5_findBest_143 : decode cX5_findBest 143 = .ok (.iconst 2, 1) := by decide +kernel
theorem dX5_findBest_144 : decode cX5_findBest 144 = .ok (.idiv, 1) := by decide +kernel
theorem dX5_findBest_145 : decode cX5_findBest 145 = .ok (.invokestatic 113, 3) := by decide +kernel
theorem dX5_findBest_148 : decode cX5_findBest 148 = .ok (.istore 7, 2) := by decide +kernel
theorem dX5_findBest_150 : decode cX5_findBest 150 = .ok (.aload_n 3, 1) := by decide +kernel
theorem dX5_findBest_151 : decode cX5_findBest 151 = .ok (.getfield 92, 3) := by decide +kernel
theorem dX5_findBest_154 : decode cX5_findBest 154 = .ok (.aload 4, 2) := by decide +kernel
theorem dX5_findBest_156 : decode cX5_findBest 156 = .ok (.getfield 89, 3) := by decide +kernel
theorem dX5_findBest_159 : decode cX5_findBest 159 = .ok (.isub, 1) := by decide +kernel
theorem dX5_findBest_160 : decode cX5_findBest 160 = .ok (.istore 8, 2) := by decide +kernel
theorem dX5_findBest_162 : decode cX5_findBest 162 = .ok (.iload 8, 2) := by decide +kernel
theorem dX5_findBest_164 : decode cX5_findBest 164 = .ok (.aload_n 3, 1) := by decide +kernel
theorem dX5_findBest_165 : decode cX5_findBest 165 = .ok (.getfield 89, 3) := by decide +kernel
theorem dX5_findBest_168 : decode cX5_findBest 168 = .ok (.aload 4, 2) := by decide +kernel
theorem dX5_findBest_170 : decode cX5_findBest 170 = .ok (.getfield 92, 3) := by decide +kernel
theorem dX5_findBest_173 : decode cX5_findBest 173 = .ok (.isub, 1) := by decide +kernel
theorem dX5_findBest_174 : decode cX5_findBest 174 = .ok (.if_icmp .lt 139, 3) := by decide +kernel
theorem dX5_findBest_177 : decode cX5_findBest 177 = .ok (.aload_n 3, 1) := by decide +kernel
theorem dX5_findBest_178 : decode cX5_findBest 178 = .ok (.aload 4, 2) := by decide +kernel
theorem dX5_findBest_180 : decode cX5_findBest 180 = .ok (.iload 8, 2) := by decide +kernel
theorem dX5_findBest_182 : decode cX5_findBest 182 = .ok (.invokestatic 180, 3) := by decide +kernel
theorem dX5_findBest_185 : decode cX5_findBest 185 = .ok (.iload 7, 2) := by decide +kernel
theorem dX5_findBest_187 : decode cX5_findBest 187 = .ok (.aload_n 0, 1) := by decide +kernel
theorem dX5_findBest_188 : decode cX5_findBest 188 = .ok (.getfield 30, 3) := by decide +kernel
theorem dX5_findBest_191 : decode cX5_findBest 191 = .ok (.iconst 1, 1) := by decide +kernel
theorem dX5_findBest_192 : decode cX5_findBest 192 = .ok (.iadd, 1) := by decide +kernel
theorem dX5_findBest_193 : decode cX5_findBest 193 = .ok (.invokestatic 150, 3) := by decide +kernel
theorem dX5_findBest_196 : decode cX5_findBest 196 = .ok (.if_icmp .ge 6, 3) := by decide +kernel
theorem dX5_findBest_199 : decode cX5_findBest 199 = .ok (.goto 108, 3) := by decide +kernel
theorem dX5_findBest_202 : decode cX5_findBest 202 = .ok (.aload_n 3, 1) := by decide +kernel
theorem dX5_findBest_203 : decode cX5_findBest 203 = .ok (.getfield 77, 3) := by decide +kernel
theorem dX5_findBest_206 : decode cX5_findBest 206 = .ok (.aload 4, 2) := by decide +kernel
theorem dX5_findBest_208 : decode cX5_findBest 208 = .ok (.getfield 74, 3) := by decide +kernel
theorem dX5_findBest_211 : decode cX5_findBest 211 = .ok (.isub, 1) := by decide +kernel
theorem dX5_findBest_212 : decode cX5_findBest 212 = .ok (.istore 9, 2) := by decide +kernel
theorem dX5_findBest_214 : decode cX5_findBest 214 = .ok (.iload 9, 2) := by decide +kernel
theorem dX5_findBest_216 : decode cX5_findBest 216 = .ok (.aload_n 3, 1) := by decide +kernel
theorem dX5_findBest_217 : decode cX5_findBest 217 = .ok (.getfield 74, 3) := by decide +kernel
theorem dX5_findBest_220 : decode cX5_findBest 220 = .ok (.aload 4, 2) := by decide +kernel
theorem dX5_findBest_222 : decode cX5_findBest 222 = .ok (.getfield 77, 3) := by decide +kernel
theorem dX5_findBest_225 : decode cX5_findBest 225 = .ok (.isub, 1) := by decide +kernel
theorem dX5_findBest_226 : decode cX5_findBest 226 = .ok (.if_icmp .lt 81, 3) := by decide +kernel
theorem dX5_findBest_229 : decode cX5_findBest 229 = .ok (.aload_n 3, 1) := by decide +kernel
theorem dX5_findBest_230 : decode cX5_findBest 230 = .ok (.aload 4, 2) := by decide +kernel
theorem dX5_findBest_232 : decode cX5_findBest 232 = .ok (.iload 9, 2) := by decide +kernel
theorem dX5_findBest_234 : decode cX5_findBest 234 = .ok (.iload 8, 2) := by decide +kernel
theorem dX5_findBest_236 : decode cX5_findBest 236 = .ok (.invokestatic 184, 3) := by decide +kernel
theorem dX5_findBest_239 : decode cX5_findBest 239 = .ok (.iload 7, 2) := by decide +kernel
theorem dX5_findBest_241 : decode cX5_findBest 241 = .ok (.aload_n 0, 1) := by decide +kernel
theorem dX5_findBest_242 : decode cX5_findBest 242 = .ok (.getfield 30, 3) := by decide +kernel
theorem dX5_findBest_245 : decode cX5_findBest 245 = .ok (.iconst 1, 1) := by decide +kernel
theorem dX5_findBest_246 : decode cX5_findBest 246 = .ok (.iadd, 1) := by decide +kernel
theorem dX5_findBest_247 : decode cX5_findBest 247 = .ok (.invokestatic 150, 3) := by decide +kernel
theorem dX5_findBest_250 : decode cX5_findBest 250 = .ok (.if_icmp .ge 6, 3) := by decide +kernel
theorem dX5_findBest_253 : decode cX5_findBest 253 = .ok (.goto 48, 3) := by decide +kernel
theorem dX5_findBest_256 : decode cX5_findBest 256 = .ok (.aload_n 3, 1) := by decide +kernel
theorem dX5_findBest_257 : decode cX5_findBest 257 = .ok (.aload 4, 2) := by decide +kernel
theorem dX5_findBest_259 : decode cX5_findBest 259 = .ok (.iload 9, 2) := by decide +kernel
theorem dX5_findBest_261 : decode cX5_findBest 261 = .ok (.iload 8, 2) := by decide +kernel
theorem dX5_findBest_263 : decode cX5_findBest 263 = .ok (.invokestatic 113, 3) := by decide +kernel
theorem dX5_findBest_266 : decode cX5_findBest 266 = .ok (.istore 10, 2) := by decide +kernel
theorem dX5_findBest_268 : decode cX5_findBest 268 = .ok (.iload 10, 2) := by decide +kernel
theorem dX5_findBest_270 : decode cX5_findBest 270 = .ok (.aload_n 0, 1) := by decide +kernel
theorem dX5_findBest_271 : decode cX5_findBest 271 = .ok (.getfield 30, 3) := by decide +kernel
theorem dX5_findBest_274 : decode cX5_findBest 274 = .ok (.if_icmp .le 27, 3) := by decide +kernel
theorem dX5_findBest_277 : decode cX5_findBest 277 = .ok (.aload_n 0, 1) := by decide +kernel
theorem dX5_findBest_278 : decode cX5_findBest 278 = .ok (.iload 10, 2) := by decide +kernel
theorem dX5_findBest_280 : decode cX5_findBest 280 = .ok (.putfield 30, 3) := by decide +kernel
theorem dX5_findBest_283 : decode cX5_findBest 283 = .ok (.aload_n 0, 1) := by decide +kernel
theorem dX5_findBest_284 : decode cX5_findBest 284 = .ok (.iload 5, 2) := by decide +kernel
theorem dX5_findBest_286 : decode cX5_findBest 286 = .ok (.iload 9, 2) := by decide +kernel
theorem dX5_findBest_288 : decode cX5_findBest 288 = .ok (.isub, 1) := by decide +kernel
theorem dX5_findBest_289 : decode cX5_findBest 289 = .ok (.putfield 33, 3) := by decide +kernel
theorem dX5_findBest_292 : decode cX5_findBest 292 = .ok (.aload_n 0, 1) := by decide +kernel
theorem dX5_findBest_293 : decode cX5_findBest 293 = .ok (.iload 6, 2) := by decide +kernel
theorem dX5_findBest_295 : decode cX5_findBest 295 = .ok (.iload 8, 2) := by decide +kernel
theorem dX5_findBest_297 : decode cX5_findBest 297 = .ok (.isub, 1) := by decide +kernel
theorem dX5_findBest_298 : decode cX5_findBest 298 = .ok (.putfield 36, 3) := by decide +kernel
theorem dX5_findBest_301 : decode cX5_findBest 301 = .ok (.iinc 9 (-1), 3) := by decide +kernel
theorem dX5_findBest_304 : decode cX5_findBest 304 = .ok (.goto (-90), 3) := by decide +kernel
theorem dX5_findBest_307 : decode cX5_findBest 307 = .ok (.iinc 8 (-1), 3) := by decide +kernel
theorem dX5_findBest_310 : decode cX5_findBest 310 = .ok (.goto (-148), 3) := by decide +kernel
theorem dX5_findBest_313 : decode cX5_findBest 313 = .ok (.return_, 1) := by decide +kernel
set_option maxRecDepth 100000 in
theorem pq1057 : Cond.methodLink RX5 180 yX5_mostIfDown ∈ pw := pw_mem (i := 1057) (by decide +kernel) rfl
set_option maxRecDepth 100000 in
theorem pq1058 : Cond.static yX5_mostIfDown ∈ pw := pw_mem (i := 1058) (by decide +kernel) rfl
set_option maxRecDepth 100000 in
theorem pq1059 : Cond.code yX5_mostIfDown cX5_mostIfDown 6 (some .int) ∈ pw := pw_mem (i := 1059) (by rfl) rfl
set_option maxRecDepth 100000 in
theorem pq1061 : Cond.methodLink RX5 184 yX3_boxPlaces ∈ pw := pw_mem (i := 1061) (by decide +kernel) rfl
set_option maxRecDepth 100000 in
theorem pq1062 : Cond.static yX3_boxPlaces ∈ pw := pw_mem (i := 1062) (by decide +kernel) rfl
set_option maxRecDepth 100000 in
theorem pq1063 : Cond.code yX3_boxPlaces cX3_boxPlaces 4 (some .int) ∈ pw := pw_mem (i := 1063) (by rfl) rfl
set_option maxHeartbeats 4000000 in
set_option maxRecDepth 100000 in
theorem s_X5_findBest (l : Launch) (dC : Nat → ClassId) (dI : Nat → Nat → Nat) (cs : Nat → ClassId) (L : List Nat) (K G : Nat → Nat) (Q : Nat → Nat → Option Nat) (hQ : Sv L K G Q) (x0 m0 : Nat) (tx : GT) (tm : GT × Int) (sz : Nat) (I : Nat → Nat → Int32) (J : Nat → Nat → Int64) (hI : Iv L K x0 m0 tx tm I) (p0 : Nat) (hLp0 : p0 ∈ L) (hKp0 : K p0 = 5) (p1 : Int32) (bp1 : (0) ≤ p1.toInt ∧ p1.toInt ≤ 9) (p2 : Int32) (bp2 : (0) ≤ p2.toInt ∧ p2.toInt ≤ 9) : Met l yX5_findBest (.code yX5_findBest cX5_findBest 11 none :: pw) ({ frames := 3, cells := 0, slots := 0, locals := 67 }) (sP (dC, dI) cs [.ref p0, .int p1, .int p2] sz L K I J Q) (va_Qv (fun (_ : Unit) => True) (fun _ t => sB (dC, dI) cs L K Q (fun I1 J1 => Iv L K x0 m0 tx tm I1 ∧ (∀ b, ¬ (b = p0) → I1 b = I b) ∧ (∀ c : Fx, okF c → cxF Q I J (nf Q p0) c → cxS Q I J p0 c → p1.toInt.toNat < (c.1 1).toInt.toNat → p2.toInt.toNat < (c.1 1).toInt.toNat → ∃ d x y : Int, bsT c p1.toInt.toNat p2.toInt.toNat d x y ∧ (I1 p0 6).toInt = d ∧ (I1 p0 7).toInt = x ∧ (I1 p0 8).toInt = y) ∧ J1 = J) t) (fun q => q ∈ L ∨ sz ≤ q)) 0 0 (fun q => q ∈ L ∨ sz ≤ q) := by
  refine Met.ofW (cc := cX5_findBest) (maxL := 11) (ret := none) (by decide +kernel) rfl ?_
  intro p e s m args below meth c s₁ B hml hv
  obtain ⟨rfl, hsz, hP, hK, hD0, hN⟩ := hv
  have hx := B.exec
  have hb := B.bytes
  have hr := B.returns
  have hts := fun w (h : w ∈ pw) => atoms_spec (ws := Cond.code yX5_findBest cX5_findBest 11 none :: pw) B.pre w (List.mem_cons_of_mem _ h)
  have hown : s.vm.findClass RX5 = some m.cls := findClass_of_methodNamed B.named
  have hlocks := B.notSynchronized
  subst hsz
  have hBB : 999 ≤ tm.2 ∧ tm.2 ≤ 6000000 := hI.2.2.2.2.1
  have dj_J : J = J := rfl
  have fr_I : ∀ b, ¬ (b = p0) → I b = I b := fun _ _ => rfl
  obtain ⟨A, hAe⟩ : ∃ A : Nat → Prop, A = (fun q => q ∈ L ∨ s.heap.size ≤ q) := ⟨_, rfl⟩
  rw [← hAe]
  have hAL : ∀ q, q ∈ L → A q := fun q h => by rw [hAe]; exact Or.inl h
  have hA : ∀ q, s.heap.size ≤ q → A q := fun q h => by rw [hAe]; exact Or.inr h
  have hD : ∀ F, va_D A (va_pl L F) := fun F => (hD0 F).weaken (fun k q hk _ => hAL _ (pl_mem hk))
  obtain ⟨H, hHe⟩ : ∃ H : Heap, H = s.heap := ⟨_, rfl⟩
  have hS : va_S A s.heap H [] := by rw [hHe]; exact va_S.rf
  rw [← hHe] at hP
  have hl := lv_entry ([.ref p0, .int p1, .int p2]) (n := 11) (Nat.le_of_ble_eq_true rfl)
  rw [lg_entry_eq]
  generalize (lg_sl ([.ref p0, .int p1, .int p2]) ++ List.replicate (11 - (lg_sl ([.ref p0, .int p1, .int p2])).length) Slot.unset).toArray = ls at hl ⊢
  have hl : lv_has ls 11 [(0, .ref p0), (1, .int p1), (2, .int p2)] := hl
  rw [← hHe]
  refine namedW (fun R Qz hR hQz => ?_)
  refine lv_aload_n hx hb dX5_findBest_0 rfl (lv_at hl 0 rfl) ?_
  obtain ⟨y1, ey1, hLy1, hKy1, hGy1⟩ := oQ_5_1 (Sv_at hQ hLp0 hKp0)
  refine p_get (v := .ref y1) hx hb hts inX5 hown hK hP hLp0 hKp0 rfl rfl 1 (by decide) (hts _ pq275) (congrArg (fun q => some (va_rf q)) ey1) dX5_findBest_1 ?_
  refine lv_iload_n hx hb dX5_findBest_4 rfl (lv_at hl 1 rfl) ?_
  obtain ⟨y5, ey5, hLy5, hKy5, hGy5⟩ := (Sv_at hQ hLy1 hKy1).1 p1.toNatClampNeg (clamp_lt (n := 10) (in_of (by omega) (by omega)))
  have hjy5 : p1.toNatClampNeg < 10 := clamp_lt (i := p1) (n := 10) (in_of (by omega) (by omega))
  refine p_aaldR hx hb hK hP 5 hLy1 hKy1 rfl rfl (in_of (by omega) (by omega)) ey5 dX5_findBest_5 ?_
  refine lv_astore_n (lv' := [(3, .ref y5), (0, .ref p0), (1, .int p1), (2, .int p2)]) hx hb dX5_findBest_6 rfl hl (by decide) rfl (fun ls hl => ?_)
  refine lv_aload_n hx hb dX5_findBest_7 rfl (lv_at hl 1 rfl) ?_
  refine p_get (v := .ref y1) hx hb hts inX5 hown hK hP hLp0 hKp0 rfl rfl 1 (by decide) (hts _ pq275) (congrArg (fun q => some (va_rf q)) ey1) dX5_findBest_8 ?_
  refine lv_iload_n hx hb dX5_findBest_11 rfl (lv_at hl 3 rfl) ?_
  obtain ⟨y12, ey12, hLy12, hKy12, hGy12⟩ := (Sv_at hQ hLy1 hKy1).1 p2.toNatClampNeg (clamp_lt (n := 10) (in_of (by omega) (by omega)))
  have hjy12 : p2.toNatClampNeg < 10 := clamp_lt (i := p2) (n := 10) (in_of (by omega) (by omega))
  refine p_aaldR hx hb hK hP 5 hLy1 hKy1 rfl rfl (in_of (by omega) (by omega)) ey12 dX5_findBest_12 ?_
  refine lv_astore (lv' := [(4, .ref y12), (3, .ref y5), (0, .ref p0), (1, .int p1), (2, .int p2)]) hx hb dX5_findBest_13 hl (by decide) rfl (fun ls hl => ?_)
  refine lv_aload_n hx hb dX5_findBest_15 rfl (lv_at hl 2 rfl) ?_
  obtain ⟨y16, ey16, hLy16, hKy16, hGy16⟩ := oQ_5_0 (Sv_at hQ hLp0 hKp0)
  refine p_get (v := .ref y16) hx hb hts inX5 hown hK hP hLp0 hKp0 rfl rfl 0 (by decide) (hts _ pq274) (congrArg (fun q => some (va_rf q)) ey16) dX5_findBest_16 ?_
  obtain ⟨y19, ey19, hLy19, hKy19, hGy19⟩ := oQ_1_1 (Sv_at hQ hLy16 hKy16)
  refine p_get (v := .ref y19) hx hb hts inX1 hown hK hP hLy16 hKy16 rfl rfl 1 (by decide) (hts _ pq218) (congrArg (fun q => some (va_rf q)) ey19) dX5_findBest_19 ?_
  refine lv_iload_n hx hb dX5_findBest_22 rfl (lv_at hl 4 rfl) ?_
  obtain ⟨y23, ey23, hLy23, hKy23, hGy23⟩ := (Sv_at hQ hLy19 hKy19).1 p2.toNatClampNeg (clamp_lt (n := 10) (in_of (by omega) (by omega)))
  refine p_aaldR hx hb hK hP 4 hLy19 hKy19 rfl rfl (in_of (by omega) (by omega)) ey23 dX5_findBest_23 ?_
  refine p_get hx hb hts inX0 hown hK hP hLy23 hKy23 rfl rfl 1 (by decide) (hts _ pq173) rfl dX5_findBest_24 ?_
  refine lv_topi (fun z24 ez24 => ?_)
  have cgz24 := congrArg Int32.toInt ez24
  have bz24 := oI_0_1 (Iv_at hI hLy23 hKy23)
  rw [← ez24] at bz24
  refine lv_istore (lv' := [(5, .int z24), (4, .ref y12), (3, .ref y5), (0, .ref p0), (1, .int p1), (2, .int p2)]) hx hb dX5_findBest_27 hl (by decide) rfl (fun ls hl => ?_)
  refine lv_aload_n hx hb dX5_findBest_29 rfl (lv_at hl 3 rfl) ?_
  refine p_get (v := .ref y16) hx hb hts inX5 hown hK hP hLp0 hKp0 rfl rfl 0 (by decide) (hts _ pq274) (congrArg (fun q => some (va_rf q)) ey16) dX5_findBest_30 ?_
  refine p_get (v := .ref y19) hx hb hts inX1 hown hK hP hLy16 hKy16 rfl rfl 1 (by decide) (hts _ pq218) (congrArg (fun q => some (va_rf q)) ey19) dX5_findBest_33 ?_
  refine lv_iload_n hx hb dX5_findBest_36 rfl (lv_at hl 5 rfl) ?_
  refine p_aaldR hx hb hK hP 4 hLy19 hKy19 rfl rfl (in_of (by omega) (by omega)) ey23 dX5_findBest_37 ?_
  refine p_get hx hb hts inX0 hown hK hP hLy23 hKy23 rfl rfl 2 (by decide) (hts _ pq176) rfl dX5_findBest_38 ?_
  refine lv_topi (fun z38 ez38 => ?_)
  have cgz38 := congrArg Int32.toInt ez38
  have bz38 := oI_0_2 (Iv_at hI hLy23 hKy23)
  rw [← ez38] at bz38
  refine lv_istore (lv' := [(6, .int z38), (5, .int z24), (4, .ref y12), (3, .ref y5), (0, .ref p0), (1, .int p1), (2, .int p2)]) hx hb dX5_findBest_41 hl (by decide) rfl (fun ls hl => ?_)
  refine lv_aload_n hx hb dX5_findBest_43 rfl (lv_at hl 4 rfl) ?_
  refine lv_iconst (v := 0) hx hb dX5_findBest_44 (by decide +kernel) ?_
  refine p_put hx hb hts inX5 tyX5 tyX5_ok nmX5 hown hK hP hD hS hLp0 hKp0 rfl rfl 6 (by decide) (hts _ pq282) rfl (by decide +kernel) (Nat.le_of_ble_eq_true rfl) (oS_5_6 cs _ _ _ _) dX5_findBest_45 (fun H locs hP hS => ?_)
  obtain ⟨Iz45, hP, hIz45, qIz45⟩ : ∃ Iz45, va_P (dC, dI) vwCl (Wd cs L K Iz45 J Q) H ∧ Iv L K x0 m0 tx tm Iz45 ∧ Iz45 = va_up I p0 (upd (I p0) 6 (0 : Int32)) := ⟨_, hP, Iv_put hI hKp0 (oP_5_6 (Iv_at hI hLp0 hKp0)) (by decide) (by decide), rfl⟩
  have fr_Iz45 : ∀ b, ¬ (b = p0) → Iz45 b = I b := fun b q => (congrFun qIz45 b).trans ((va_up_ne _ _ (fun z => q z)).trans (fr_I b q))
  refine lv_aload_n hx hb dX5_findBest_48 rfl (lv_at hl 4 rfl) ?_
  refine lv_aload_n hx hb dX5_findBest_49 rfl (lv_at hl 4 rfl) ?_
  refine p_get (v := .ref y16) hx hb hts inX5 hown hK hP hLp0 hKp0 rfl rfl 0 (by decide) (hts _ pq274) (congrArg (fun q => some (va_rf q)) ey16) dX5_findBest_50 ?_
  refine p_get (v := .ref y19) hx hb hts inX1 hown hK hP hLy16 hKy16 rfl rfl 1 (by decide) (hts _ pq218) (congrArg (fun q => some (va_rf q)) ey19) dX5_findBest_53 ?_
  refine lv_iload_n hx hb dX5_findBest_56 rfl (lv_at hl 5 rfl) ?_
  obtain ⟨y57, ey57, hLy57, hKy57, hGy57⟩ := (Sv_at hQ hLy19 hKy19).1 p1.toNatClampNeg (clamp_lt (n := 10) (in_of (by omega) (by omega)))
  refine p_aaldR hx hb hK hP 4 hLy19 hKy19 rfl rfl (in_of (by omega) (by omega)) ey57 dX5_findBest_57 ?_
  refine p_get hx hb hts inX0 hown hK hP hLy57 hKy57 rfl rfl 1 (by decide) (hts _ pq173) rfl dX5_findBest_58 ?_
  refine lv_topi (fun z58 ez58 => ?_)
  have cgz58 := congrArg Int32.toInt ez58
  have bz58 := oI_0_1 (Iv_at hIz45 hLy57 hKy57)
  rw [← ez58] at bz58
  refine p_put hx hb hts inX5 tyX5 tyX5_ok nmX5 hown hK hP hD hS hLp0 hKp0 rfl rfl 7 (by decide) (hts _ pq284) rfl (by decide +kernel) (Nat.le_of_ble_eq_true rfl) (oS_5_7 cs _ _ _ _) dX5_findBest_61 (fun H locs hP hS => ?_)
  obtain ⟨Iz61, hP, hIz61, qIz61⟩ : ∃ Iz61, va_P (dC, dI) vwCl (Wd cs L K Iz61 J Q) H ∧ Iv L K x0 m0 tx tm Iz61 ∧ Iz61 = va_up Iz45 p0 (upd (Iz45 p0) 7 z58) := ⟨_, hP, Iv_put hIz45 hKp0 (oP_5_7 (Iv_at hIz45 hLp0 hKp0)) (by decide) (by decide), rfl⟩
  have fr_Iz61 : ∀ b, ¬ (b = p0) → Iz61 b = I b := fun b q => (congrFun qIz61 b).trans ((va_up_ne _ _ (fun z => q z)).trans (fr_Iz45 b q))
  refine lv_aload_n hx hb dX5_findBest_64 rfl (lv_at hl 4 rfl) ?_
  refine lv_aload_n hx hb dX5_findBest_65 rfl (lv_at hl 4 rfl) ?_
  refine p_get (v := .ref y16) hx hb hts inX5 hown hK hP hLp0 hKp0 rfl rfl 0 (by decide) (hts _ pq274) (congrArg (fun q => some (va_rf q)) ey16) dX5_findBest_66 ?_
  refine p_get (v := .ref y19) hx hb hts inX1 hown hK hP hLy16 hKy16 rfl rfl 1 (by decide) (hts _ pq218) (congrArg (fun q => some (va_rf q)) ey19) dX5_findBest_69 ?_
  refine lv_iload_n hx hb dX5_findBest_72 rfl (lv_at hl 5 rfl) ?_
  refine p_aaldR hx hb hK hP 4 hLy19 hKy19 rfl rfl (in_of (by omega) (by omega)) ey57 dX5_findBest_73 ?_
  refine p_get hx hb hts inX0 hown hK hP hLy57 hKy57 rfl rfl 2 (by decide) (hts _ pq176) rfl dX5_findBest_74 ?_
  refine lv_topi (fun z74 ez74 => ?_)
  have cgz74 := congrArg Int32.toInt ez74
  have bz74 := oI_0_2 (Iv_at hIz61 hLy57 hKy57)
  rw [← ez74] at bz74
  refine p_put hx hb hts inX5 tyX5 tyX5_ok nmX5 hown hK hP hD hS hLp0 hKp0 rfl rfl 8 (by decide) (hts _ pq286) rfl (by decide +kernel) (Nat.le_of_ble_eq_true rfl) (oS_5_8 cs _ _ _ _) dX5_findBest_77 (fun H locs hP hS => ?_)
  obtain ⟨Iz77, hP, hIz77, qIz77⟩ : ∃ Iz77, va_P (dC, dI) vwCl (Wd cs L K Iz77 J Q) H ∧ Iv L K x0 m0 tx tm Iz77 ∧ Iz77 = va_up Iz61 p0 (upd (Iz61 p0) 8 z74) := ⟨_, hP, Iv_put hIz61 hKp0 (oP_5_8 (Iv_at hIz61 hLp0 hKp0)) (by decide) (by decide), rfl⟩
  have fr_Iz77 : ∀ b, ¬ (b = p0) → Iz77 b = I b := fun b q => (congrFun qIz77 b).trans ((va_up_ne _ _ (fun z => q z)).trans (fr_Iz61 b q))
  refine lv_aload_n hx hb dX5_findBest_80 rfl (lv_at hl 3 rfl) ?_
  refine p_get hx hb hts inX3 hown hK hP hLy5 hKy5 rfl rfl 3 (by decide) (hts _ pq130) rfl dX5_findBest_81 ?_
  refine lv_topi (fun z81 ez81 => ?_)
  refine lv_if_eq (tgt := 95) hx hb dX5_findBest_84 (by decide) (fun c84 => ?_) (fun c84 => ?_)
  · have t84 := tq_eq (k := z81.toInt) (q := (0)) c84 rfl (by decide +kernel)
    subst hR; subst hQz
    exact W.vret hx hb hr (fun t ht hW => ⟨⟨(), rfl, trivial, ⟨Iz77, J, ⟨hIz77, fr_Iz77, (fun c ok h hs ha hb => by have pb := ok.2.2.2 _ hb; have pb1 := pb.2.1; have pb2 := pb.2.2.1; have pa := ok.2.2.2 _ ha; have pa1 := pa.2.1; have pa2 := pa.2.2.1; have eXb : bX c p2.toInt.toNat = (c.1 (19 + 8 * p2.toInt.toNat + 1)).toInt := rfl; have eYb : bY c p2.toInt.toNat = (c.1 (19 + 8 * p2.toInt.toNat + 2)).toInt := rfl; have eXa : bX c p1.toInt.toNat = (c.1 (19 + 8 * p1.toInt.toNat + 1)).toInt := rfl; have eYa : bY c p1.toInt.toNat = (c.1 (19 + 8 * p1.toInt.toNat + 2)).toInt := rfl; have SA := hs p1.toInt.toNat ha; have SB := hs p2.toInt.toNat hb; rw [show sm Q p0 p1.toInt.toNat = y5 from sm_of ey1 ey5] at SA; rw [show sm Q p0 p2.toInt.toNat = y12 from sm_of ey1 ey12] at SB; have A0 := SA.2.2.2; have B0 := SB.2.2.2; have mA := cxM_ok SA (okm_shp ok ha); have mB := cxM_ok SB (okm_shp ok hb); have ne5 : ¬ y5 = p0 := (fun e => by rw [e] at hKy5; omega); have ne12 : ¬ y12 = p0 := (fun e => by rw [e] at hKy12; omega); have va := fun k (hk : k < 8) => h.2.2.2.2 p2.toInt.toNat hb k hk; rw [nf_of ey16, show fb Q y16 p2.toInt.toNat = y23 from fb_of ey19 ey23] at va; have xb : z24.toInt = bX c p2.toInt.toNat := (by rw [ez24, va 1 (by decide)]; rfl); have yb : z38.toInt = bY c p2.toInt.toNat := (by rw [ez38, va 2 (by decide)]; rfl); have vb := fun k (hk : k < 8) => h.2.2.2.2 p1.toInt.toNat ha k hk; rw [nf_of ey16, show fb Q y16 p1.toInt.toNat = y57 from fb_of ey19 ey57] at vb; have ne57 : ¬ y57 = p0 := (fun e => by rw [e] at hKy57; omega); have f6 : (Iz77 p0 6).toInt = 0 := (by rw [qIz77, rz_fr _ _ _ _ (by decide), qIz61, rz_fr _ _ _ _ (by decide), qIz45, rz_at]; decide +kernel); have f7 : (Iz77 p0 7).toInt = bX c p1.toInt.toNat := (by rw [qIz77, rz_fr _ _ _ _ (by decide), qIz61, rz_at, ez58, fr_Iz45 y57 ne57, vb 1 (by decide)]; rfl); have f8 : (Iz77 p0 8).toInt = bY c p1.toInt.toNat := (by rw [qIz77, rz_at, ez74, fr_Iz61 y57 ne57, vb 2 (by decide)]; rfl); exact ⟨0, _, _, ⟨fun X Y => bsC_0 A0 B0 (by first | exact Or.inl (by rw [← fr_Iz77 y5 ne5, ← ez81]; exact t84) | exact Or.inr (by rw [← fr_Iz77 y12 ne12, ← ez89]; exact t92)) X Y, Or.inl ⟨rfl, rfl, rfl⟩⟩, f6, f7, f8⟩), dj_J⟩, by rw [ht]; exact hP⟩⟩, hS.F ht⟩) hS.2.2 dX5_findBest_95
  · have t84 := tq_ne (k := z81.toInt) (q := (0)) c84 rfl (by decide +kernel)
    refine lv_aload hx hb dX5_findBest_87 (lv_at hl 2 rfl) ?_
    refine p_get hx hb hts inX3 hown hK hP hLy12 hKy12 rfl rfl 3 (by decide) (hts _ pq130) rfl dX5_findBest_89 ?_
    refine lv_topi (fun z89 ez89 => ?_)
    refine lv_if_ne (tgt := 96) hx hb dX5_findBest_92 (by decide) (fun c92 => ?_) (fun c92 => ?_)
    · have t92 := tq_ne (k := z89.toInt) (q := (0)) c92 rfl (by decide +kernel)
      refine lv_aload_n hx hb dX5_findBest_96 rfl (lv_at hl 3 rfl) ?_
      refine lv_aload hx hb dX5_findBest_97 (lv_at hl 2 rfl) ?_
      refine lv_aload_n hx hb dX5_findBest_99 rfl (lv_at hl 3 rfl) ?_
      refine p_get hx hb hts inX3 hown hK hP hLy5 hKy5 rfl rfl 4 (by decide) (hts _ pq133) rfl dX5_findBest_100 ?_
      refine lv_topi (fun z100 ez100 => ?_)
      have bz100 := oI_3_4 (Iv_at hIz77 hLy5 hKy5)
      rw [← ez100] at bz100
      refine lv_aload_n hx hb dX5_findBest_103 rfl (lv_at hl 3 rfl) ?_
      refine p_get hx hb hts inX3 hown hK hP hLy5 hKy5 rfl rfl 6 (by decide) (hts _ pq139) rfl dX5_findBest_104 ?_
      refine lv_topi (fun z104 ez104 => ?_)
      have bz104 := oI_3_6 (Iv_at hIz77 hLy5 hKy5)
      rw [← ez104] at bz104
      refine lv_iadd hx hb dX5_findBest_107 ?_
      refine lv_topi (fun z107 ez107 => ?_)
      have bz107 := tq_add (k := z100.toInt) (q := z104.toInt) ez107 rfl rfl (by omega) (by omega)
      refine lv_aload hx hb dX5_findBest_108 (lv_at hl 2 rfl) ?_
      refine p_get hx hb hts inX3 hown hK hP hLy12 hKy12 rfl rfl 4 (by decide) (hts _ pq133) rfl dX5_findBest_110 ?_
      refine lv_topi (fun z110 ez110 => ?_)
      have bz110 := oI_3_4 (Iv_at hIz77 hLy12 hKy12)
      rw [← ez110] at bz110
      refine lv_isub hx hb dX5_findBest_113 ?_
      refine lv_topi (fun z113 ez113 => ?_)
      have bz113 := tq_sub (k := z107.toInt) (q := z110.toInt) ez113 rfl rfl (by omega) (by omega)
      refine lv_aload hx hb dX5_findBest_114 (lv_at hl 2 rfl) ?_
      refine p_get hx hb hts inX3 hown hK hP hLy12 hKy12 rfl rfl 6 (by decide) (hts _ pq139) rfl dX5_findBest_116 ?_
      refine lv_topi (fun z116 ez116 => ?_)
      have bz116 := oI_3_6 (Iv_at hIz77 hLy12 hKy12)
      rw [← ez116] at bz116
      refine lv_isub hx hb dX5_findBest_119 ?_
      refine lv_topi (fun z119 ez119 => ?_)
      have bz119 := tq_sub (k := z113.toInt) (q := z116.toInt) ez119 rfl rfl (by omega) (by omega)
      refine lv_iconst (v := 2) hx hb dX5_findBest_120 (by decide +kernel) ?_
      refine lv_idiv hx hb dX5_findBest_121 (by decide +kernel) ?_
      refine lv_topi (fun z121 ez121 => ?_)
      refine lv_aload_n hx hb dX5_findBest_122 rfl (lv_at hl 3 rfl) ?_
      refine p_get hx hb hts inX3 hown hK hP hLy5 hKy5 rfl rfl 5 (by decide) (hts _ pq136) rfl dX5_findBest_123 ?_
      refine lv_topi (fun z123 ez123 => ?_)
      have bz123 := oI_3_5 (Iv_at hIz77 hLy5 hKy5)
      rw [← ez123] at bz123
      refine lv_aload_n hx hb dX5_findBest_126 rfl (lv_at hl 3 rfl) ?_
      refine p_get hx hb hts inX3 hown hK hP hLy5 hKy5 rfl rfl 7 (by decide) (hts _ pq142) rfl dX5_findBest_127 ?_
      refine lv_topi (fun z127 ez127 => ?_)
      have bz127 := oI_3_7 (Iv_at hIz77 hLy5 hKy5)
      rw [← ez127] at bz127
      refine lv_iadd hx hb dX5_findBest_130 ?_
      refine lv_topi (fun z130 ez130 => ?_)
      have bz130 := tq_add (k := z123.toInt) (q := z127.toInt) ez130 rfl rfl (by omega) (by omega)
      refine lv_aload hx hb dX5_findBest_131 (lv_at hl 2 rfl) ?_
      refine p_get hx hb hts inX3 hown hK hP hLy12 hKy12 rfl rfl 5 (by decide) (hts _ pq136) rfl dX5_findBest_133 ?_
      refine lv_topi (fun z133 ez133 => ?_)
      have bz133 := oI_3_5 (Iv_at hIz77 hLy12 hKy12)
      rw [← ez133] at bz133
      refine lv_isub hx hb dX5_findBest_136 ?_
      refine lv_topi (fun z136 ez136 => ?_)
      have bz136 := tq_sub (k := z130.toInt) (q := z133.toInt) ez136 rfl rfl (by omega) (by omega)
      refine lv_aload hx hb dX5_findBest_137 (lv_at hl 2 rfl) ?_
      refine p_get hx hb hts inX3 hown hK hP hLy12 hKy12 rfl rfl 7 (by decide) (hts _ pq142) rfl dX5_findBest_139 ?_
      refine lv_topi (fun z139 ez139 => ?_)
      have bz139 := oI_3_7 (Iv_at hIz77 hLy12 hKy12)
      rw [← ez139] at bz139
      refine lv_isub hx hb dX5_findBest_142 ?_
      refine lv_topi (fun z142 ez142 => ?_)
      have bz142 := tq_sub (k := z136.toInt) (q := z139.toInt) ez142 rfl rfl (by omega) (by omega)
      refine lv_iconst (v := 2) hx hb dX5_findBest_143 (by decide +kernel) ?_
      refine lv_idiv hx hb dX5_findBest_144 (by decide +kernel) ?_
      refine lv_topi (fun z144 ez144 => ?_)
      refine ro_i (va_runS (As := [.ref y5, .ref y12, .int z121, .int z144]) (rest := []) ⟨hx, hb, hml, hown, hts⟩ (s_X3_shared l dC dI cs L K G Q hQ x0 m0 tx tm H.size Iz77 J hIz77 y5 hLy5 hKy5 y12 hLy12 hKy12 z121 z144) (va_cwS 4 hts (gS pq978 pq979 pq76 pq980) rfl rfl rfl (by decide +kernel) ⟨(by rw [hR]; exact (Nat.le_of_ble_eq_true rfl)), (by rw [hR]; exact (Nat.le_of_ble_eq_true rfl))⟩) (sP_S hP hD hK hN) rfl rfl hl.1 rfl (lv_room (Nat.le_of_ble_eq_true rfl)) dX5_findBest_145 ⟨(by rw [hR]; exact (Nat.le_of_ble_eq_true rfl)), (by rw [hR]; exact (Nat.le_of_ble_eq_true rfl))⟩) hS hP (fun z145 H locs hz145 hP hS => ?_)
      have xpz145 := hz145
      refine lv_istore (lv' := [(7, .int z145), (6, .int z38), (5, .int z24), (4, .ref y12), (3, .ref y5), (0, .ref p0), (1, .int p1), (2, .int p2)]) hx hb dX5_findBest_148 hl (by decide) rfl (fun ls hl => ?_)
      refine lv_aload_n hx hb dX5_findBest_150 rfl (lv_at hl 4 rfl) ?_
      refine p_get hx hb hts inX3 hown hK hP hLy5 hKy5 rfl rfl 7 (by decide) (hts _ pq142) rfl dX5_findBest_151 ?_
      refine lv_topi (fun z151 ez151 => ?_)
      obtain rfl : z127 = z151 := ez127.trans ez151.symm
      refine lv_aload hx hb dX5_findBest_154 (lv_at hl 3 rfl) ?_
      refine p_get hx hb hts inX3 hown hK hP hLy12 hKy12 rfl rfl 5 (by decide) (hts _ pq136) rfl dX5_findBest_156 ?_
      refine lv_topi (fun z156 ez156 => ?_)
      obtain rfl : z133 = z156 := ez133.trans ez156.symm
      refine lv_isub hx hb dX5_findBest_159 ?_
      refine lv_topi (fun z159 ez159 => ?_)
      have bz159 := tq_sub (k := z127.toInt) (q := z133.toInt) ez159 rfl rfl (by omega) (by omega)
      refine lv_istore (lv' := [(8, .int z159), (7, .int z145), (6, .int z38), (5, .int z24), (4, .ref y12), (3, .ref y5), (0, .ref p0), (1, .int p1), (2, .int p2)]) hx hb dX5_findBest_160 hl (by decide) rfl (fun ls hl => ?_)
      have key162 := blocks (fun n => ∀ (v162_8 : Int32) (I162 : Nat → Nat → Int32) (H : Heap) (lo : List Loc) (ls : Array Slot), (v162_8.toInt - (-42)).toNat = n → ((-41) ≤ v162_8.toInt ∧ v162_8.toInt ≤ 40) → Iv L K x0 m0 tx tm I162 → (∀ b, ¬ (b = p0) → I162 b = I b) → v162_8.toInt ≤ z159.toInt → (∀ c : Fx, okF c → cxF Q I J (nf Q p0) c → cxS Q I J p0 c → p1.toInt.toNat < (c.1 1).toInt.toNat → p2.toInt.toNat < (c.1 1).toInt.toNat → bsJ (bsC c p1.toInt.toNat p2.toInt.toNat) z145.toInt (bX c p1.toInt.toNat) (bY c p1.toInt.toNat) (bY c p2.toInt.toNat - v162_8.toInt) (-100000) (I162 p0 6).toInt (I162 p0 7).toInt (I162 p0 8).toInt) → va_P (dC, dI) vwCl (Wd cs L K I162 J Q) H → va_S A s.heap H lo → lv_has ls 11 [(0, .ref p0), (1, .int p1), (2, .int p2), (3, .ref y5), (4, .ref y12), (5, .int z24), (6, .int z38), (7, .int z145), (8, .int v162_8)] → W p l e R s m (([.ref p0, .int p1, .int p2] : List Value).toArray) below meth c H lo 0 0 Qz (F0 m 162 ls [])) (by
        intro n ih162
        intro v162_8 I162 H lo ls hmu162 bv162_8 hI162 fr_I162 hx162 g162 hP hS hl
        refine lv_iload hx hb dX5_findBest_162 (lv_at hl 8 rfl) ?_
        refine lv_aload_n hx hb dX5_findBest_164 rfl (lv_at hl 3 rfl) ?_
        refine p_get hx hb hts inX3 hown hK hP hLy5 hKy5 rfl rfl 5 (by decide) (hts _ pq136) rfl dX5_findBest_165 ?_
        refine lv_topi (fun z165 ez165 => ?_)
        have bz165 := oI_3_5 (Iv_at hI162 hLy5 hKy5)
        rw [← ez165] at bz165
        refine lv_aload hx hb dX5_findBest_168 (lv_at hl 4 rfl) ?_
        refine p_get hx hb hts inX3 hown hK hP hLy12 hKy12 rfl rfl 7 (by decide) (hts _ pq142) rfl dX5_findBest_170 ?_
        refine lv_topi (fun z170 ez170 => ?_)
        have bz170 := oI_3_7 (Iv_at hI162 hLy12 hKy12)
        rw [← ez170] at bz170
        refine lv_isub hx hb dX5_findBest_173 ?_
        refine lv_topi (fun z173 ez173 => ?_)
        have bz173 := tq_sub (k := z165.toInt) (q := z170.toInt) ez173 rfl rfl (by omega) (by omega)
        refine lv_icmp_lt (tgt := 313) hx hb dX5_findBest_174 (by decide) (fun c174 => ?_) (fun c174 => ?_)
        · have t174 := tq_lt (k := v162_8.toInt) (q := z173.toInt) c174 rfl rfl
          subst hR; subst hQz
          exact W.vret hx hb hr (fun t ht hW => ⟨⟨(), rfl, trivial, ⟨I162, J, ⟨hI162, fr_I162, (fun c ok h hs ha hb => by have pb := ok.2.2.2 _ hb; have pb1 := pb.2.1; have pb2 := pb.2.2.1; have pa := ok.2.2.2 _ ha; have pa1 := pa.2.1; have pa2 := pa.2.2.1; have eXb : bX c p2.toInt.toNat = (c.1 (19 + 8 * p2.toInt.toNat + 1)).toInt := rfl; have eYb : bY c p2.toInt.toNat = (c.1 (19 + 8 * p2.toInt.toNat + 2)).toInt := rfl; have eXa : bX c p1.toInt.toNat = (c.1 (19 + 8 * p1.toInt.toNat + 1)).toInt := rfl; have eYa : bY c p1.toInt.toNat = (c.1 (19 + 8 * p1.toInt.toNat + 2)).toInt := rfl; have SA := hs p1.toInt.toNat ha; have SB := hs p2.toInt.toNat hb; rw [show sm Q p0 p1.toInt.toNat = y5 from sm_of ey1 ey5] at SA; rw [show sm Q p0 p2.toInt.toNat = y12 from sm_of ey1 ey12] at SB; have A0 := SA.2.2.2; have B0 := SB.2.2.2; have mA := cxM_ok SA (okm_shp ok ha); have mB := cxM_ok SB (okm_shp ok hb); have ne5 : ¬ y5 = p0 := (fun e => by rw [e] at hKy5; omega); have ne12 : ¬ y12 = p0 := (fun e => by rw [e] at hKy12; omega); have va := fun k (hk : k < 8) => h.2.2.2.2 p2.toInt.toNat hb k hk; rw [nf_of ey16, show fb Q y16 p2.toInt.toNat = y23 from fb_of ey19 ey23] at va; have xb : z24.toInt = bX c p2.toInt.toNat := (by rw [ez24, va 1 (by decide)]; rfl); have yb : z38.toInt = bY c p2.toInt.toNat := (by rw [ez38, va 2 (by decide)]; rfl); have e100 : z100.toInt = (I y5 4).toInt := congrArg Int32.toInt (show z100 = I y5 4 by rw [ez100, fr_Iz77 y5 ne5]); have e104 : z104.toInt = (I y5 6).toInt := congrArg Int32.toInt (show z104 = I y5 6 by rw [ez104, fr_Iz77 y5 ne5]); have e123 : z123.toInt = (I y5 5).toInt := congrArg Int32.toInt (show z123 = I y5 5 by rw [ez123, fr_Iz77 y5 ne5]); have e127 : z127.toInt = (I y5 7).toInt := congrArg Int32.toInt (show z127 = I y5 7 by rw [ez127, fr_Iz77 y5 ne5]); have e110 : z110.toInt = (I y12 4).toInt := congrArg Int32.toInt (show z110 = I y12 4 by rw [ez110, fr_Iz77 y12 ne12]); have e116 : z116.toInt = (I y12 6).toInt := congrArg Int32.toInt (show z116 = I y12 6 by rw [ez116, fr_Iz77 y12 ne12]); have e133 : z133.toInt = (I y12 5).toInt := congrArg Int32.toInt (show z133 = I y12 5 by rw [ez133, fr_Iz77 y12 ne12]); have e139 : z139.toInt = (I y12 7).toInt := congrArg Int32.toInt (show z139 = I y12 7 by rw [ez139, fr_Iz77 y12 ne12]); have e165 : z165.toInt = (I y5 5).toInt := congrArg Int32.toInt (show z165 = I y5 5 by rw [ez165, fr_I162 y5 ne5]); have e170 : z170.toInt = (I y12 7).toInt := congrArg Int32.toInt (show z170 = I y12 7 by rw [ez170, fr_I162 y12 ne12]); have M5 : mko Q Iz77 J y5 := (by unfold mko; rw [fr_Iz77 y5 ne5]; exact mA); have M12 : mko Q Iz77 J y12 := (by unfold mko; rw [fr_Iz77 y12 ne12]; exact mB); have d121 := fdiv (x := z119) (y := 2) (r := z121) (by decide +kernel) ez121; have d144 := fdiv (x := z142) (y := 2) (r := z144) (by decide +kernel) ez144; rw [show (2 : Int32).toInt = 2 from by decide +kernel] at d121 d144; have eS : bsC c p1.toInt.toNat p2.toInt.toNat (bX c p2.toInt.toNat - z121.toInt) (bY c p2.toInt.toNat - z144.toInt) = z145.toInt := (by have k := xpz145 ⟨⟨by omega, by omega⟩, by omega, by omega⟩ M5 M12; rw [cm_congr SA.2.2.1 SB.2.2.1] at k; unfold bsC; rw [show bX c p2.toInt.toNat - (bX c p2.toInt.toNat - z121.toInt) = z121.toInt by omega, show bY c p2.toInt.toNat - (bY c p2.toInt.toNat - z144.toInt) = z144.toInt by omega]; exact k.symm); exact ⟨_, _, _, bs_end (g162 c ok h hs ha hb) (bsC_b _ _ _) (fun x y => by by_cases w : bfr (bY c p2.toInt.toNat - v162_8.toInt) (-100000) y x; (exact Or.inl w); (exact Or.inr (bsC_z A0 B0 (by unfold bfr at w; omega)))) (Or.inr ⟨_, _, eS⟩), rfl, rfl, rfl⟩), dj_J⟩, by rw [ht]; exact hP⟩⟩, hS.F ht⟩) hS.2.2 dX5_findBest_313
        · have t174 := tq_nlt (k := v162_8.toInt) (q := z173.toInt) c174 rfl rfl
          refine lv_aload_n hx hb dX5_findBest_177 rfl (lv_at hl 3 rfl) ?_
          refine lv_aload hx hb dX5_findBest_178 (lv_at hl 4 rfl) ?_
          refine lv_iload hx hb dX5_findBest_180 (lv_at hl 8 rfl) ?_
          refine ro_i (va_runS (As := [.ref y5, .ref y12, .int v162_8]) (rest := []) ⟨hx, hb, hml, hown, hts⟩ (s_X5_mostIfDown l dC dI cs L K G Q hQ x0 m0 tx tm H.size I162 J hI162 y5 hLy5 hKy5 y12 hLy12 hKy12 v162_8 ⟨by omega, by omega⟩) (va_cwS 3 hts (gS pq1057 pq1058 pq79 pq1059) rfl rfl rfl (by decide +kernel) ⟨(by rw [hR]; exact (Nat.le_of_ble_eq_true rfl)), (by rw [hR]; exact (Nat.le_of_ble_eq_true rfl))⟩) (sP_S hP hD hK hN) rfl rfl hl.1 rfl (lv_room (Nat.le_of_ble_eq_true rfl)) dX5_findBest_182 ⟨(by rw [hR]; exact (Nat.le_of_ble_eq_true rfl)), (by rw [hR]; exact (Nat.le_of_ble_eq_true rfl))⟩) hS hP (fun z182 H locs hz182 hP hS => ?_)
          have xpz182 := hz182
          refine lv_iload hx hb dX5_findBest_185 (lv_at hl 7 rfl) ?_
          refine lv_aload_n hx hb dX5_findBest_187 rfl (lv_at hl 0 rfl) ?_
          refine p_get hx hb hts inX5 hown hK hP hLp0 hKp0 rfl rfl 6 (by decide) (hts _ pq282) rfl dX5_findBest_188 ?_
          refine lv_topi (fun z188 ez188 => ?_)
          refine lv_iconst (v := 1) hx hb dX5_findBest_191 (by decide +kernel) ?_
          refine lv_iadd hx hb dX5_findBest_192 ?_
          refine lv_topi (fun z192 ez192 => ?_)
          refine va_mmax hx hb (hml.trans hl.1.symm) hown (hts _ pq765) (hts _ pq750) (hts _ pq82) (hts _ pq751) (by rw [hR]; exact (Nat.le_of_ble_eq_true rfl)) (by rw [hR]; exact (Nat.le_of_ble_eq_true rfl)) (by rw [hR]; exact (Nat.le_of_ble_eq_true rfl)) (by rw [hR]; exact (Nat.le_of_ble_eq_true rfl)) dX5_findBest_193 ?_
          refine lv_topi (fun z193 ez193 => ?_)
          have bz193 := tq_max ez193
          have j307 : ∀ (I307 : Nat → Nat → Int32) (H : Heap) (lo : List Loc) (ls : Array Slot), Iv L K x0 m0 tx tm I307 → (∀ b, ¬ (b = p0) → I307 b = I b) → (∀ c : Fx, okF c → cxF Q I J (nf Q p0) c → cxS Q I J p0 c → p1.toInt.toNat < (c.1 1).toInt.toNat → p2.toInt.toNat < (c.1 1).toInt.toNat → bsJ (bsC c p1.toInt.toNat p2.toInt.toNat) z145.toInt (bX c p1.toInt.toNat) (bY c p1.toInt.toNat) (bY c p2.toInt.toNat - v162_8.toInt + 1) (-100000) (I307 p0 6).toInt (I307 p0 7).toInt (I307 p0 8).toInt) → va_P (dC, dI) vwCl (Wd cs L K I307 J Q) H → va_S A s.heap H lo → lv_has ls 11 [(0, .ref p0), (1, .int p1), (2, .int p2), (3, .ref y5), (4, .ref y12), (5, .int z24), (6, .int z38), (7, .int z145), (8, .int v162_8)] → W p l e R s m (([.ref p0, .int p1, .int p2] : List Value).toArray) below meth c H lo 0 0 Qz (F0 m 307 ls []) := by
            intro I307 H lo ls hI307 fr_I307 g307 hP hS hl
            obtain ⟨z307, ez307⟩ : ∃ y : Int32, y = v162_8 + (-1) := ⟨_, rfl⟩
            refine lv_iinc (v := z307) (lv' := [(8, .int z307), (0, .ref p0), (1, .int p1), (2, .int p2), (3, .ref y5), (4, .ref y12), (5, .int z24), (6, .int z38), (7, .int z145)]) hx hb dX5_findBest_307 hl (k := 8) rfl (by rw [ez307]; rfl) (by decide) rfl (fun ls hl => ?_)
            have bz307 := tq_add (k := v162_8.toInt) (q := (-1)) ez307 rfl (by decide +kernel) (by omega) (by omega)
            refine lv_goto (tgt := 162) hx hb dX5_findBest_310 (by decide) ?_
            exact ih162 _ (by omega) z307 I307 _ _ _ rfl ⟨by omega, by omega⟩ hI307 fr_I307 (by omega) (fun c ok h hs ha hb => by rw [show bY c p2.toInt.toNat - z307.toInt = bY c p2.toInt.toNat - v162_8.toInt + 1 by omega]; exact g307 c ok h hs ha hb) hP hS (lv_sub hl [1, 2, 3, 4, 5, 6, 7, 8, 0] rfl)
          refine lv_icmp_ge (tgt := 202) hx hb dX5_findBest_196 (by decide) (fun c196 => ?_) (fun c196 => ?_)
          · have t196 := tq_le (k := z193.toInt) (q := z182.toInt) c196 rfl rfl
            refine lv_aload_n hx hb dX5_findBest_202 rfl (lv_at hl 3 rfl) ?_
            refine p_get hx hb hts inX3 hown hK hP hLy5 hKy5 rfl rfl 6 (by decide) (hts _ pq139) rfl dX5_findBest_203 ?_
            refine lv_topi (fun z203 ez203 => ?_)
            have bz203 := oI_3_6 (Iv_at hI162 hLy5 hKy5)
            rw [← ez203] at bz203
            refine lv_aload hx hb dX5_findBest_206 (lv_at hl 4 rfl) ?_
            refine p_get hx hb hts inX3 hown hK hP hLy12 hKy12 rfl rfl 4 (by decide) (hts _ pq133) rfl dX5_findBest_208 ?_
            refine lv_topi (fun z208 ez208 => ?_)
            have bz208 := oI_3_4 (Iv_at hI162 hLy12 hKy12)
            rw [← ez208] at bz208
            refine lv_isub hx hb dX5_findBest_211 ?_
            refine lv_topi (fun z211 ez211 => ?_)
            have bz211 := tq_sub (k := z203.toInt) (q := z208.toInt) ez211 rfl rfl (by omega) (by omega)
            refine lv_istore (lv' := [(9, .int z211), (0, .ref p0), (1, .int p1), (2, .int p2), (3, .ref y5), (4, .ref y12), (5, .int z24), (6, .int z38), (7, .int z145), (8, .int v162_8)]) hx hb dX5_findBest_212 hl (by decide) rfl (fun ls hl => ?_)
            have key214 := blocks (fun n => ∀ (v214_9 : Int32) (I214 : Nat → Nat → Int32) (H : Heap) (lo : List Loc) (ls : Array Slot), (v214_9.toInt - (-130)).toNat = n → ((-129) ≤ v214_9.toInt ∧ v214_9.toInt ≤ 128) → Iv L K x0 m0 tx tm I214 → (∀ b, ¬ (b = p0) → I214 b = I b) → v214_9.toInt ≤ z211.toInt → (∀ c : Fx, okF c → cxF Q I J (nf Q p0) c → cxS Q I J p0 c → p1.toInt.toNat < (c.1 1).toInt.toNat → p2.toInt.toNat < (c.1 1).toInt.toNat → bsJ (bsC c p1.toInt.toNat p2.toInt.toNat) z145.toInt (bX c p1.toInt.toNat) (bY c p1.toInt.toNat) (bY c p2.toInt.toNat - v162_8.toInt) (bX c p2.toInt.toNat - v214_9.toInt) (I214 p0 6).toInt (I214 p0 7).toInt (I214 p0 8).toInt) → va_P (dC, dI) vwCl (Wd cs L K I214 J Q) H → va_S A s.heap H lo → lv_has ls 11 [(0, .ref p0), (1, .int p1), (2, .int p2), (3, .ref y5), (4, .ref y12), (5, .int z24), (6, .int z38), (7, .int z145), (8, .int v162_8), (9, .int v214_9)] → W p l e R s m (([.ref p0, .int p1, .int p2] : List Value).toArray) below meth c H lo 0 0 Qz (F0 m 214 ls [])) (by
              intro n ih214
              intro v214_9 I214 H lo ls hmu214 bv214_9 hI214 fr_I214 hx214 g214 hP hS hl
              refine lv_iload hx hb dX5_findBest_214 (lv_at hl 9 rfl) ?_
              refine lv_aload_n hx hb dX5_findBest_216 rfl (lv_at hl 3 rfl) ?_
              refine p_get hx hb hts inX3 hown hK hP hLy5 hKy5 rfl rfl 4 (by decide) (hts _ pq133) rfl dX5_findBest_217 ?_
              refine lv_topi (fun z217 ez217 => ?_)
              have bz217 := oI_3_4 (Iv_at hI214 hLy5 hKy5)
              rw [← ez217] at bz217
              refine lv_aload hx hb dX5_findBest_220 (lv_at hl 4 rfl) ?_
              refine p_get hx hb hts inX3 hown hK hP hLy12 hKy12 rfl rfl 6 (by decide) (hts _ pq139) rfl dX5_findBest_222 ?_
              refine lv_topi (fun z222 ez222 => ?_)
              have bz222 := oI_3_6 (Iv_at hI214 hLy12 hKy12)
              rw [← ez222] at bz222
              refine lv_isub hx hb dX5_findBest_225 ?_
              refine lv_topi (fun z225 ez225 => ?_)
              have bz225 := tq_sub (k := z217.toInt) (q := z222.toInt) ez225 rfl rfl (by omega) (by omega)
              refine lv_icmp_lt (tgt := 307) hx hb dX5_findBest_226 (by decide) (fun c226 => ?_) (fun c226 => ?_)
              · have t226 := tq_lt (k := v214_9.toInt) (q := z225.toInt) c226 rfl rfl
                exact j307 I214 _ _ _ hI214 fr_I214 (fun c ok h hs ha hb => by have pb := ok.2.2.2 _ hb; have pb1 := pb.2.1; have pb2 := pb.2.2.1; have pa := ok.2.2.2 _ ha; have pa1 := pa.2.1; have pa2 := pa.2.2.1; have eXb : bX c p2.toInt.toNat = (c.1 (19 + 8 * p2.toInt.toNat + 1)).toInt := rfl; have eYb : bY c p2.toInt.toNat = (c.1 (19 + 8 * p2.toInt.toNat + 2)).toInt := rfl; have eXa : bX c p1.toInt.toNat = (c.1 (19 + 8 * p1.toInt.toNat + 1)).toInt := rfl; have eYa : bY c p1.toInt.toNat = (c.1 (19 + 8 * p1.toInt.toNat + 2)).toInt := rfl; have SA := hs p1.toInt.toNat ha; have SB := hs p2.toInt.toNat hb; rw [show sm Q p0 p1.toInt.toNat = y5 from sm_of ey1 ey5] at SA; rw [show sm Q p0 p2.toInt.toNat = y12 from sm_of ey1 ey12] at SB; have A0 := SA.2.2.2; have B0 := SB.2.2.2; have mA := cxM_ok SA (okm_shp ok ha); have mB := cxM_ok SB (okm_shp ok hb); have ne5 : ¬ y5 = p0 := (fun e => by rw [e] at hKy5; omega); have ne12 : ¬ y12 = p0 := (fun e => by rw [e] at hKy12; omega); have va := fun k (hk : k < 8) => h.2.2.2.2 p2.toInt.toNat hb k hk; rw [nf_of ey16, show fb Q y16 p2.toInt.toNat = y23 from fb_of ey19 ey23] at va; have xb : z24.toInt = bX c p2.toInt.toNat := (by rw [ez24, va 1 (by decide)]; rfl); have yb : z38.toInt = bY c p2.toInt.toNat := (by rw [ez38, va 2 (by decide)]; rfl); have e100 : z100.toInt = (I y5 4).toInt := congrArg Int32.toInt (show z100 = I y5 4 by rw [ez100, fr_Iz77 y5 ne5]); have e104 : z104.toInt = (I y5 6).toInt := congrArg Int32.toInt (show z104 = I y5 6 by rw [ez104, fr_Iz77 y5 ne5]); have e123 : z123.toInt = (I y5 5).toInt := congrArg Int32.toInt (show z123 = I y5 5 by rw [ez123, fr_Iz77 y5 ne5]); have e127 : z127.toInt = (I y5 7).toInt := congrArg Int32.toInt (show z127 = I y5 7 by rw [ez127, fr_Iz77 y5 ne5]); have e110 : z110.toInt = (I y12 4).toInt := congrArg Int32.toInt (show z110 = I y12 4 by rw [ez110, fr_Iz77 y12 ne12]); have e116 : z116.toInt = (I y12 6).toInt := congrArg Int32.toInt (show z116 = I y12 6 by rw [ez116, fr_Iz77 y12 ne12]); have e133 : z133.toInt = (I y12 5).toInt := congrArg Int32.toInt (show z133 = I y12 5 by rw [ez133, fr_Iz77 y12 ne12]); have e139 : z139.toInt = (I y12 7).toInt := congrArg Int32.toInt (show z139 = I y12 7 by rw [ez139, fr_Iz77 y12 ne12]); have e217 : z217.toInt = (I y5 4).toInt := congrArg Int32.toInt (show z217 = I y5 4 by rw [ez217, fr_I214 y5 ne5]); have e222 : z222.toInt = (I y12 6).toInt := congrArg Int32.toInt (show z222 = I y12 6 by rw [ez222, fr_I214 y12 ne12]); exact bs_mv (g214 c ok h hs ha hb) (fun x y q => by by_cases w : bfr (bY c p2.toInt.toNat - v162_8.toInt) (bX c p2.toInt.toNat - v214_9.toInt) y x; (exact Or.inl w); (exact Or.inr (Or.inl (bsC_z A0 B0 (by unfold bfr at q w; omega)))))) hP hS (lv_sub hl [0, 1, 2, 3, 4, 5, 6, 7, 8] rfl)
              · have t226 := tq_nlt (k := v214_9.toInt) (q := z225.toInt) c226 rfl rfl
                refine lv_aload_n hx hb dX5_findBest_229 rfl (lv_at hl 3 rfl) ?_
                refine lv_aload hx hb dX5_findBest_230 (lv_at hl 4 rfl) ?_
                refine lv_iload hx hb dX5_findBest_232 (lv_at hl 9 rfl) ?_
                refine lv_iload hx hb dX5_findBest_234 (lv_at hl 8 rfl) ?_
                refine ro_i (va_runS (As := [.ref y5, .ref y12, .int v214_9, .int v162_8]) (rest := []) ⟨hx, hb, hml, hown, hts⟩ (s_X3_boxPlaces l dC dI cs L K G Q hQ x0 m0 tx tm H.size I214 J hI214 y5 hLy5 hKy5 y12 hLy12 hKy12 v214_9 v162_8) (va_cwS 4 hts (gS pq1061 pq1062 pq76 pq1063) rfl rfl rfl (by decide +kernel) ⟨(by rw [hR]; exact (Nat.le_of_ble_eq_true rfl)), (by rw [hR]; exact (Nat.le_of_ble_eq_true rfl))⟩) (sP_S hP hD hK hN) rfl rfl hl.1 rfl (lv_room (Nat.le_of_ble_eq_true rfl)) dX5_findBest_236 ⟨(by rw [hR]; exact (Nat.le_of_ble_eq_true rfl)), (by rw [hR]; exact (Nat.le_of_ble_eq_true rfl))⟩) hS hP (fun z236 H locs hz236 hP hS => ?_)
                have xpz236 := hz236
                refine lv_iload hx hb dX5_findBest_239 (lv_at hl 7 rfl) ?_
                refine lv_aload_n hx hb dX5_findBest_241 rfl (lv_at hl 0 rfl) ?_
                refine p_get hx hb hts inX5 hown hK hP hLp0 hKp0 rfl rfl 6 (by decide) (hts _ pq282) rfl dX5_findBest_242 ?_
                refine lv_topi (fun z242 ez242 => ?_)
                refine lv_iconst (v := 1) hx hb dX5_findBest_245 (by decide +kernel) ?_
                refine lv_iadd hx hb dX5_findBest_246 ?_
                refine lv_topi (fun z246 ez246 => ?_)
                refine va_mmax hx hb (hml.trans hl.1.symm) hown (hts _ pq765) (hts _ pq750) (hts _ pq82) (hts _ pq751) (by rw [hR]; exact (Nat.le_of_ble_eq_true rfl)) (by rw [hR]; exact (Nat.le_of_ble_eq_true rfl)) (by rw [hR]; exact (Nat.le_of_ble_eq_true rfl)) (by rw [hR]; exact (Nat.le_of_ble_eq_true rfl)) dX5_findBest_247 ?_
                refine lv_topi (fun z247 ez247 => ?_)
                have bz247 := tq_max ez247
                have j301 : ∀ (I301 : Nat → Nat → Int32) (H : Heap) (lo : List Loc) (ls : Array Slot), Iv L K x0 m0 tx tm I301 → (∀ b, ¬ (b = p0) → I301 b = I b) → (∀ c : Fx, okF c → cxF Q I J (nf Q p0) c → cxS Q I J p0 c → p1.toInt.toNat < (c.1 1).toInt.toNat → p2.toInt.toNat < (c.1 1).toInt.toNat → bsJ (bsC c p1.toInt.toNat p2.toInt.toNat) z145.toInt (bX c p1.toInt.toNat) (bY c p1.toInt.toNat) (bY c p2.toInt.toNat - v162_8.toInt) (bX c p2.toInt.toNat - v214_9.toInt + 1) (I301 p0 6).toInt (I301 p0 7).toInt (I301 p0 8).toInt) → va_P (dC, dI) vwCl (Wd cs L K I301 J Q) H → va_S A s.heap H lo → lv_has ls 11 [(0, .ref p0), (1, .int p1), (2, .int p2), (3, .ref y5), (4, .ref y12), (5, .int z24), (6, .int z38), (7, .int z145), (8, .int v162_8), (9, .int v214_9)] → W p l e R s m (([.ref p0, .int p1, .int p2] : List Value).toArray) below meth c H lo 0 0 Qz (F0 m 301 ls []) := by
                  intro I301 H lo ls hI301 fr_I301 g301 hP hS hl
                  obtain ⟨z301, ez301⟩ : ∃ y : Int32, y = v214_9 + (-1) := ⟨_, rfl⟩
                  refine lv_iinc (v := z301) (lv' := [(9, .int z301), (0, .ref p0), (1, .int p1), (2, .int p2), (3, .ref y5), (4, .ref y12), (5, .int z24), (6, .int z38), (7, .int z145), (8, .int v162_8)]) hx hb dX5_findBest_301 hl (k := 9) rfl (by rw [ez301]; rfl) (by decide) rfl (fun ls hl => ?_)
                  have bz301 := tq_add (k := v214_9.toInt) (q := (-1)) ez301 rfl (by decide +kernel) (by omega) (by omega)
                  refine lv_goto (tgt := 214) hx hb dX5_findBest_304 (by decide) ?_
                  exact ih214 _ (by omega) z301 I301 _ _ _ rfl ⟨by omega, by omega⟩ hI301 fr_I301 (by omega) (fun c ok h hs ha hb => by rw [show bX c p2.toInt.toNat - z301.toInt = bX c p2.toInt.toNat - v214_9.toInt + 1 by omega]; exact g301 c ok h hs ha hb) hP hS (lv_sub hl [1, 2, 3, 4, 5, 6, 7, 8, 9, 0] rfl)
                refine lv_icmp_ge (tgt := 256) hx hb dX5_findBest_250 (by decide) (fun c250 => ?_) (fun c250 => ?_)
                · have t250 := tq_le (k := z247.toInt) (q := z236.toInt) c250 rfl rfl
                  refine lv_aload_n hx hb dX5_findBest_256 rfl (lv_at hl 3 rfl) ?_
                  refine lv_aload hx hb dX5_findBest_257 (lv_at hl 4 rfl) ?_
                  refine lv_iload hx hb dX5_findBest_259 (lv_at hl 9 rfl) ?_
                  refine lv_iload hx hb dX5_findBest_261 (lv_at hl 8 rfl) ?_
                  refine ro_i (va_runS (As := [.ref y5, .ref y12, .int v214_9, .int v162_8]) (rest := []) ⟨hx, hb, hml, hown, hts⟩ (s_X3_shared l dC dI cs L K G Q hQ x0 m0 tx tm H.size I214 J hI214 y5 hLy5 hKy5 y12 hLy12 hKy12 v214_9 v162_8) (va_cwS 4 hts (gS pq978 pq979 pq76 pq980) rfl rfl rfl (by decide +kernel) ⟨(by rw [hR]; exact (Nat.le_of_ble_eq_true rfl)), (by rw [hR]; exact (Nat.le_of_ble_eq_true rfl))⟩) (sP_S hP hD hK hN) rfl rfl hl.1 rfl (lv_room (Nat.le_of_ble_eq_true rfl)) dX5_findBest_263 ⟨(by rw [hR]; exact (Nat.le_of_ble_eq_true rfl)), (by rw [hR]; exact (Nat.le_of_ble_eq_true rfl))⟩) hS hP (fun z263 H locs hz263 hP hS => ?_)
                  have xpz263 := hz263
                  refine lv_istore (lv' := [(10, .int z263), (0, .ref p0), (1, .int p1), (2, .int p2), (3, .ref y5), (4, .ref y12), (5, .int z24), (6, .int z38), (7, .int z145), (8, .int v162_8), (9, .int v214_9)]) hx hb dX5_findBest_266 hl (by decide) rfl (fun ls hl => ?_)
                  refine lv_iload hx hb dX5_findBest_268 (lv_at hl 0 rfl) ?_
                  refine lv_aload_n hx hb dX5_findBest_270 rfl (lv_at hl 1 rfl) ?_
                  refine p_get hx hb hts inX5 hown hK hP hLp0 hKp0 rfl rfl 6 (by decide) (hts _ pq282) rfl dX5_findBest_271 ?_
                  refine lv_topi (fun z271 ez271 => ?_)
                  obtain rfl : z242 = z271 := ez242.trans ez271.symm
                  refine lv_icmp_le (tgt := 301) hx hb dX5_findBest_274 (by decide) (fun c274 => ?_) (fun c274 => ?_)
                  · have t274 := tq_le (k := z263.toInt) (q := z242.toInt) c274 rfl rfl
                    exact j301 I214 _ _ _ hI214 fr_I214 (fun c ok h hs ha hb => by have pb := ok.2.2.2 _ hb; have pb1 := pb.2.1; have pb2 := pb.2.2.1; have pa := ok.2.2.2 _ ha; have pa1 := pa.2.1; have pa2 := pa.2.2.1; have eXb : bX c p2.toInt.toNat = (c.1 (19 + 8 * p2.toInt.toNat + 1)).toInt := rfl; have eYb : bY c p2.toInt.toNat = (c.1 (19 + 8 * p2.toInt.toNat + 2)).toInt := rfl; have eXa : bX c p1.toInt.toNat = (c.1 (19 + 8 * p1.toInt.toNat + 1)).toInt := rfl; have eYa : bY c p1.toInt.toNat = (c.1 (19 + 8 * p1.toInt.toNat + 2)).toInt := rfl; have SA := hs p1.toInt.toNat ha; have SB := hs p2.toInt.toNat hb; rw [show sm Q p0 p1.toInt.toNat = y5 from sm_of ey1 ey5] at SA; rw [show sm Q p0 p2.toInt.toNat = y12 from sm_of ey1 ey12] at SB; have A0 := SA.2.2.2; have B0 := SB.2.2.2; have mA := cxM_ok SA (okm_shp ok ha); have mB := cxM_ok SB (okm_shp ok hb); have ne5 : ¬ y5 = p0 := (fun e => by rw [e] at hKy5; omega); have ne12 : ¬ y12 = p0 := (fun e => by rw [e] at hKy12; omega); have va := fun k (hk : k < 8) => h.2.2.2.2 p2.toInt.toNat hb k hk; rw [nf_of ey16, show fb Q y16 p2.toInt.toNat = y23 from fb_of ey19 ey23] at va; have xb : z24.toInt = bX c p2.toInt.toNat := (by rw [ez24, va 1 (by decide)]; rfl); have yb : z38.toInt = bY c p2.toInt.toNat := (by rw [ez38, va 2 (by decide)]; rfl); have e100 : z100.toInt = (I y5 4).toInt := congrArg Int32.toInt (show z100 = I y5 4 by rw [ez100, fr_Iz77 y5 ne5]); have e104 : z104.toInt = (I y5 6).toInt := congrArg Int32.toInt (show z104 = I y5 6 by rw [ez104, fr_Iz77 y5 ne5]); have e123 : z123.toInt = (I y5 5).toInt := congrArg Int32.toInt (show z123 = I y5 5 by rw [ez123, fr_Iz77 y5 ne5]); have e127 : z127.toInt = (I y5 7).toInt := congrArg Int32.toInt (show z127 = I y5 7 by rw [ez127, fr_Iz77 y5 ne5]); have e110 : z110.toInt = (I y12 4).toInt := congrArg Int32.toInt (show z110 = I y12 4 by rw [ez110, fr_Iz77 y12 ne12]); have e116 : z116.toInt = (I y12 6).toInt := congrArg Int32.toInt (show z116 = I y12 6 by rw [ez116, fr_Iz77 y12 ne12]); have e133 : z133.toInt = (I y12 5).toInt := congrArg Int32.toInt (show z133 = I y12 5 by rw [ez133, fr_Iz77 y12 ne12]); have e139 : z139.toInt = (I y12 7).toInt := congrArg Int32.toInt (show z139 = I y12 7 by rw [ez139, fr_Iz77 y12 ne12]); have M5 : mko Q I214 J y5 := (by unfold mko; rw [fr_I214 y5 ne5]; exact mA); have M12 : mko Q I214 J y12 := (by unfold mko; rw [fr_I214 y12 ne12]; exact mB); have eC : z263.toInt = bsC c p1.toInt.toNat p2.toInt.toNat (bX c p2.toInt.toNat - v214_9.toInt) (bY c p2.toInt.toNat - v162_8.toInt) := (by have k := xpz263 ⟨⟨by omega, by omega⟩, by omega, by omega⟩ M5 M12; rw [k, cm_congr SA.2.2.1 SB.2.2.1]; unfold bsC; rw [show bX c p2.toInt.toNat - (bX c p2.toInt.toNat - v214_9.toInt) = v214_9.toInt by omega, show bY c p2.toInt.toNat - (bY c p2.toInt.toNat - v162_8.toInt) = v162_8.toInt by omega]); have G := g214 c ok h hs ha hb; have d0 := bs_d G.2; have e242 : z242.toInt = (I214 p0 6).toInt := congrArg Int32.toInt ez242; exact bs_mv G (fun x y q => by by_cases w : bfr (bY c p2.toInt.toNat - v162_8.toInt) (bX c p2.toInt.toNat - v214_9.toInt) y x; (exact Or.inl w); (have e : x = bX c p2.toInt.toNat - v214_9.toInt ∧ y = bY c p2.toInt.toNat - v162_8.toInt := (by unfold bfr at q w; omega); rw [e.1, e.2, ← eC]; exact Or.inr (Or.inr (Or.inl (by omega)))))) hP hS (lv_sub hl [1, 2, 3, 4, 5, 6, 7, 8, 9, 10] rfl)
                  · have t274 := tq_nle (k := z263.toInt) (q := z242.toInt) c274 rfl rfl
                    refine lv_aload_n hx hb dX5_findBest_277 rfl (lv_at hl 1 rfl) ?_
                    refine lv_iload hx hb dX5_findBest_278 (lv_at hl 0 rfl) ?_
                    refine p_put hx hb hts inX5 tyX5 tyX5_ok nmX5 hown hK hP hD hS hLp0 hKp0 rfl rfl 6 (by decide) (hts _ pq282) rfl (by decide +kernel) (Nat.le_of_ble_eq_true rfl) (oS_5_6 cs _ _ _ _) dX5_findBest_280 (fun H locs hP hS => ?_)
                    obtain ⟨Iz280, hP, hIz280, qIz280⟩ : ∃ Iz280, va_P (dC, dI) vwCl (Wd cs L K Iz280 J Q) H ∧ Iv L K x0 m0 tx tm Iz280 ∧ Iz280 = va_up I214 p0 (upd (I214 p0) 6 z263) := ⟨_, hP, Iv_put hI214 hKp0 (oP_5_6 (Iv_at hI214 hLp0 hKp0)) (by decide) (by decide), rfl⟩
                    have fr_Iz280 : ∀ b, ¬ (b = p0) → Iz280 b = I b := fun b q => (congrFun qIz280 b).trans ((va_up_ne _ _ (fun z => q z)).trans (fr_I214 b q))
                    refine lv_aload_n hx hb dX5_findBest_283 rfl (lv_at hl 1 rfl) ?_
                    refine lv_iload hx hb dX5_findBest_284 (lv_at hl 6 rfl) ?_
                    refine lv_iload hx hb dX5_findBest_286 (lv_at hl 10 rfl) ?_
                    refine lv_isub hx hb dX5_findBest_288 ?_
                    refine lv_topi (fun z288 ez288 => ?_)
                    have bz288 := tq_sub (k := z24.toInt) (q := v214_9.toInt) ez288 rfl rfl (by omega) (by omega)
                    refine p_put hx hb hts inX5 tyX5 tyX5_ok nmX5 hown hK hP hD hS hLp0 hKp0 rfl rfl 7 (by decide) (hts _ pq284) rfl (by decide +kernel) (Nat.le_of_ble_eq_true rfl) (oS_5_7 cs _ _ _ _) dX5_findBest_289 (fun H locs hP hS => ?_)
                    obtain ⟨Iz289, hP, hIz289, qIz289⟩ : ∃ Iz289, va_P (dC, dI) vwCl (Wd cs L K Iz289 J Q) H ∧ Iv L K x0 m0 tx tm Iz289 ∧ Iz289 = va_up Iz280 p0 (upd (Iz280 p0) 7 z288) := ⟨_, hP, Iv_put hIz280 hKp0 (oP_5_7 (Iv_at hIz280 hLp0 hKp0)) (by decide) (by decide), rfl⟩
                    have fr_Iz289 : ∀ b, ¬ (b = p0) → Iz289 b = I b := fun b q => (congrFun qIz289 b).trans ((va_up_ne _ _ (fun z => q z)).trans (fr_Iz280 b q))
                    refine lv_aload_n hx hb dX5_findBest_292 rfl (lv_at hl 1 rfl) ?_
                    refine lv_iload hx hb dX5_findBest_293 (lv_at hl 7 rfl) ?_
                    refine lv_iload hx hb dX5_findBest_295 (lv_at hl 9 rfl) ?_
                    refine lv_isub hx hb dX5_findBest_297 ?_
                    refine lv_topi (fun z297 ez297 => ?_)
                    have bz297 := tq_sub (k := z38.toInt) (q := v162_8.toInt) ez297 rfl rfl (by omega) (by omega)
                    refine p_put hx hb hts inX5 tyX5 tyX5_ok nmX5 hown hK hP hD hS hLp0 hKp0 rfl rfl 8 (by decide) (hts _ pq286) rfl (by decide +kernel) (Nat.le_of_ble_eq_true rfl) (oS_5_8 cs _ _ _ _) dX5_findBest_298 (fun H locs hP hS => ?_)
                    obtain ⟨Iz298, hP, hIz298, qIz298⟩ : ∃ Iz298, va_P (dC, dI) vwCl (Wd cs L K Iz298 J Q) H ∧ Iv L K x0 m0 tx tm Iz298 ∧ Iz298 = va_up Iz289 p0 (upd (Iz289 p0) 8 z297) := ⟨_, hP, Iv_put hIz289 hKp0 (oP_5_8 (Iv_at hIz289 hLp0 hKp0)) (by decide) (by decide), rfl⟩
                    have fr_Iz298 : ∀ b, ¬ (b = p0) → Iz298 b = I b := fun b q => (congrFun qIz298 b).trans ((va_up_ne _ _ (fun z => q z)).trans (fr_Iz289 b q))
                    exact j301 Iz298 _ _ _ hIz298 fr_Iz298 (fun c ok h hs ha hb => by have pb := ok.2.2.2 _ hb; have pb1 := pb.2.1; have pb2 := pb.2.2.1; have pa := ok.2.2.2 _ ha; have pa1 := pa.2.1; have pa2 := pa.2.2.1; have eXb : bX c p2.toInt.toNat = (c.1 (19 + 8 * p2.toInt.toNat + 1)).toInt := rfl; have eYb : bY c p2.toInt.toNat = (c.1 (19 + 8 * p2.toInt.toNat + 2)).toInt := rfl; have eXa : bX c p1.toInt.toNat = (c.1 (19 + 8 * p1.toInt.toNat + 1)).toInt := rfl; have eYa : bY c p1.toInt.toNat = (c.1 (19 + 8 * p1.toInt.toNat + 2)).toInt := rfl; have SA := hs p1.toInt.toNat ha; have SB := hs p2.toInt.toNat hb; rw [show sm Q p0 p1.toInt.toNat = y5 from sm_of ey1 ey5] at SA; rw [show sm Q p0 p2.toInt.toNat = y12 from sm_of ey1 ey12] at SB; have A0 := SA.2.2.2; have B0 := SB.2.2.2; have mA := cxM_ok SA (okm_shp ok ha); have mB := cxM_ok SB (okm_shp ok hb); have ne5 : ¬ y5 = p0 := (fun e => by rw [e] at hKy5; omega); have ne12 : ¬ y12 = p0 := (fun e => by rw [e] at hKy12; omega); have va := fun k (hk : k < 8) => h.2.2.2.2 p2.toInt.toNat hb k hk; rw [nf_of ey16, show fb Q y16 p2.toInt.toNat = y23 from fb_of ey19 ey23] at va; have xb : z24.toInt = bX c p2.toInt.toNat := (by rw [ez24, va 1 (by decide)]; rfl); have yb : z38.toInt = bY c p2.toInt.toNat := (by rw [ez38, va 2 (by decide)]; rfl); have e100 : z100.toInt = (I y5 4).toInt := congrArg Int32.toInt (show z100 = I y5 4 by rw [ez100, fr_Iz77 y5 ne5]); have e104 : z104.toInt = (I y5 6).toInt := congrArg Int32.toInt (show z104 = I y5 6 by rw [ez104, fr_Iz77 y5 ne5]); have e123 : z123.toInt = (I y5 5).toInt := congrArg Int32.toInt (show z123 = I y5 5 by rw [ez123, fr_Iz77 y5 ne5]); have e127 : z127.toInt = (I y5 7).toInt := congrArg Int32.toInt (show z127 = I y5 7 by rw [ez127, fr_Iz77 y5 ne5]); have e110 : z110.toInt = (I y12 4).toInt := congrArg Int32.toInt (show z110 = I y12 4 by rw [ez110, fr_Iz77 y12 ne12]); have e116 : z116.toInt = (I y12 6).toInt := congrArg Int32.toInt (show z116 = I y12 6 by rw [ez116, fr_Iz77 y12 ne12]); have e133 : z133.toInt = (I y12 5).toInt := congrArg Int32.toInt (show z133 = I y12 5 by rw [ez133, fr_Iz77 y12 ne12]); have e139 : z139.toInt = (I y12 7).toInt := congrArg Int32.toInt (show z139 = I y12 7 by rw [ez139, fr_Iz77 y12 ne12]); have M5 : mko Q I214 J y5 := (by unfold mko; rw [fr_I214 y5 ne5]; exact mA); have M12 : mko Q I214 J y12 := (by unfold mko; rw [fr_I214 y12 ne12]; exact mB); have eC : z263.toInt = bsC c p1.toInt.toNat p2.toInt.toNat (bX c p2.toInt.toNat - v214_9.toInt) (bY c p2.toInt.toNat - v162_8.toInt) := (by have k := xpz263 ⟨⟨by omega, by omega⟩, by omega, by omega⟩ M5 M12; rw [k, cm_congr SA.2.2.1 SB.2.2.1]; unfold bsC; rw [show bX c p2.toInt.toNat - (bX c p2.toInt.toNat - v214_9.toInt) = v214_9.toInt by omega, show bY c p2.toInt.toNat - (bY c p2.toInt.toNat - v162_8.toInt) = v162_8.toInt by omega]); have G := g214 c ok h hs ha hb; have d0 := bs_d G.2; have e242 : z242.toInt = (I214 p0 6).toInt := congrArg Int32.toInt ez242; rw [show (Iz298 p0 6).toInt = z263.toInt from by rw [qIz298, rz_fr _ _ _ _ (by decide), qIz289, rz_fr _ _ _ _ (by decide), qIz280, rz_at], show (Iz298 p0 7).toInt = bX c p2.toInt.toNat - v214_9.toInt from by rw [qIz298, rz_fr _ _ _ _ (by decide), qIz289, rz_at, bz288, xb], show (Iz298 p0 8).toInt = bY c p2.toInt.toNat - v162_8.toInt from by rw [qIz298, rz_at, bz297, yb]]; exact bs_new G eC (by omega) rfl) hP hS (lv_sub hl [1, 2, 3, 4, 5, 6, 7, 8, 9, 10] rfl)
                · have t250 := tq_nle (k := z247.toInt) (q := z236.toInt) c250 rfl rfl
                  refine lv_goto (tgt := 301) hx hb dX5_findBest_253 (by decide) ?_
                  exact j301 I214 _ _ _ hI214 fr_I214 (fun c ok h hs ha hb => by have pb := ok.2.2.2 _ hb; have pb1 := pb.2.1; have pb2 := pb.2.2.1; have pa := ok.2.2.2 _ ha; have pa1 := pa.2.1; have pa2 := pa.2.2.1; have eXb : bX c p2.toInt.toNat = (c.1 (19 + 8 * p2.toInt.toNat + 1)).toInt := rfl; have eYb : bY c p2.toInt.toNat = (c.1 (19 + 8 * p2.toInt.toNat + 2)).toInt := rfl; have eXa : bX c p1.toInt.toNat = (c.1 (19 + 8 * p1.toInt.toNat + 1)).toInt := rfl; have eYa : bY c p1.toInt.toNat = (c.1 (19 + 8 * p1.toInt.toNat + 2)).toInt := rfl; have SA := hs p1.toInt.toNat ha; have SB := hs p2.toInt.toNat hb; rw [show sm Q p0 p1.toInt.toNat = y5 from sm_of ey1 ey5] at SA; rw [show sm Q p0 p2.toInt.toNat = y12 from sm_of ey1 ey12] at SB; have A0 := SA.2.2.2; have B0 := SB.2.2.2; have mA := cxM_ok SA (okm_shp ok ha); have mB := cxM_ok SB (okm_shp ok hb); have ne5 : ¬ y5 = p0 := (fun e => by rw [e] at hKy5; omega); have ne12 : ¬ y12 = p0 := (fun e => by rw [e] at hKy12; omega); have va := fun k (hk : k < 8) => h.2.2.2.2 p2.toInt.toNat hb k hk; rw [nf_of ey16, show fb Q y16 p2.toInt.toNat = y23 from fb_of ey19 ey23] at va; have xb : z24.toInt = bX c p2.toInt.toNat := (by rw [ez24, va 1 (by decide)]; rfl); have yb : z38.toInt = bY c p2.toInt.toNat := (by rw [ez38, va 2 (by decide)]; rfl); have e100 : z100.toInt = (I y5 4).toInt := congrArg Int32.toInt (show z100 = I y5 4 by rw [ez100, fr_Iz77 y5 ne5]); have e104 : z104.toInt = (I y5 6).toInt := congrArg Int32.toInt (show z104 = I y5 6 by rw [ez104, fr_Iz77 y5 ne5]); have e123 : z123.toInt = (I y5 5).toInt := congrArg Int32.toInt (show z123 = I y5 5 by rw [ez123, fr_Iz77 y5 ne5]); have e127 : z127.toInt = (I y5 7).toInt := congrArg Int32.toInt (show z127 = I y5 7 by rw [ez127, fr_Iz77 y5 ne5]); have e110 : z110.toInt = (I y12 4).toInt := congrArg Int32.toInt (show z110 = I y12 4 by rw [ez110, fr_Iz77 y12 ne12]); have e116 : z116.toInt = (I y12 6).toInt := congrArg Int32.toInt (show z116 = I y12 6 by rw [ez116, fr_Iz77 y12 ne12]); have e133 : z133.toInt = (I y12 5).toInt := congrArg Int32.toInt (show z133 = I y12 5 by rw [ez133, fr_Iz77 y12 ne12]); have e139 : z139.toInt = (I y12 7).toInt := congrArg Int32.toInt (show z139 = I y12 7 by rw [ez139, fr_Iz77 y12 ne12]); have e203 : z203.toInt = (I y5 6).toInt := congrArg Int32.toInt (show z203 = I y5 6 by rw [ez203, fr_I162 y5 ne5]); have e208 : z208.toInt = (I y12 4).toInt := congrArg Int32.toInt (show z208 = I y12 4 by rw [ez208, fr_I162 y12 ne12]); have e217 : z217.toInt = (I y5 4).toInt := congrArg Int32.toInt (show z217 = I y5 4 by rw [ez217, fr_I214 y5 ne5]); have e222 : z222.toInt = (I y12 6).toInt := congrArg Int32.toInt (show z222 = I y12 6 by rw [ez222, fr_I214 y12 ne12]); have e165 : z165.toInt = (I y5 5).toInt := congrArg Int32.toInt (show z165 = I y5 5 by rw [ez165, fr_I162 y5 ne5]); have e170 : z170.toInt = (I y12 7).toInt := congrArg Int32.toInt (show z170 = I y12 7 by rw [ez170, fr_I162 y12 ne12]); have M5 : mko Q I214 J y5 := (by unfold mko; rw [fr_I214 y5 ne5]; exact mA); have M12 : mko Q I214 J y12 := (by unfold mko; rw [fr_I214 y12 ne12]; exact mB); have G := g214 c ok h hs ha hb; have d0 := bs_d G.2; have e242 : z242.toInt = (I214 p0 6).toInt := congrArg Int32.toInt ez242; have n5 : I214 y5 = I y5 := fr_I214 y5 ne5; have n12 : I214 y12 = I y12 := fr_I214 y12 ne12; have m5 : ¬ (I214 y5 3).toInt = 0 := (by rw [n5, ← fr_Iz77 y5 ne5, ← ez81]; exact t84); have m12 : ¬ (I214 y12 3).toInt = 0 := (by rw [n12, ← fr_Iz77 y12 ne12, ← ez89]; exact t92); have k := xpz236 ⟨⟨by omega, by omega⟩, by omega, by omega⟩ M5 M12 m5 m12 (by rw [n5, n12]; omega); rw [cm_congr SA.2.2.1 SB.2.2.1] at k; have eC : bsC c p1.toInt.toNat p2.toInt.toNat (bX c p2.toInt.toNat - v214_9.toInt) (bY c p2.toInt.toNat - v162_8.toInt) ≤ z236.toInt := (by unfold bsC; rw [show bX c p2.toInt.toNat - (bX c p2.toInt.toNat - v214_9.toInt) = v214_9.toInt by omega, show bY c p2.toInt.toNat - (bY c p2.toInt.toNat - v162_8.toInt) = v162_8.toInt by omega]; exact k); exact bs_mv G (fun x y q => by by_cases w : bfr (bY c p2.toInt.toNat - v162_8.toInt) (bX c p2.toInt.toNat - v214_9.toInt) y x; (exact Or.inl w); (have e : x = bX c p2.toInt.toNat - v214_9.toInt ∧ y = bY c p2.toInt.toNat - v162_8.toInt := (by unfold bfr at q w; omega); rw [e.1, e.2]; rcases Int.lt_or_le (I214 p0 6).toInt (bsC c p1.toInt.toNat p2.toInt.toNat (bX c p2.toInt.toNat - v214_9.toInt) (bY c p2.toInt.toNat - v162_8.toInt)) with u | u; (have cb := (cm_b (mkw (shp c p1.toInt.toNat)) (mkw (shp c p2.toInt.toNat)) (bX c p2.toInt.toNat - (bX c p2.toInt.toNat - v214_9.toInt)) (bY c p2.toInt.toNat - (bY c p2.toInt.toNat - v162_8.toInt))).2; have cb2 : bsC c p1.toInt.toNat p2.toInt.toNat (bX c p2.toInt.toNat - v214_9.toInt) (bY c p2.toInt.toNat - v162_8.toInt) ≤ 5120 := cb; have a246 := tq_add (k := z242.toInt) (q := 1) ez246 rfl (by decide +kernel) (by omega) (by omega); exact Or.inr (Or.inr (Or.inr (by omega)))); (exact Or.inr (Or.inr (Or.inl u)))))) hP hS (lv_sub hl [0, 1, 2, 3, 4, 5, 6, 7, 8, 9] rfl))
            exact key214 _ z211 I162 _ _ _ rfl ⟨by omega, by omega⟩ hI162 fr_I162 (by omega) (fun c ok h hs ha hb => by have pb := ok.2.2.2 _ hb; have pb1 := pb.2.1; have pb2 := pb.2.2.1; have pa := ok.2.2.2 _ ha; have pa1 := pa.2.1; have pa2 := pa.2.2.1; have eXb : bX c p2.toInt.toNat = (c.1 (19 + 8 * p2.toInt.toNat + 1)).toInt := rfl; have eYb : bY c p2.toInt.toNat = (c.1 (19 + 8 * p2.toInt.toNat + 2)).toInt := rfl; have eXa : bX c p1.toInt.toNat = (c.1 (19 + 8 * p1.toInt.toNat + 1)).toInt := rfl; have eYa : bY c p1.toInt.toNat = (c.1 (19 + 8 * p1.toInt.toNat + 2)).toInt := rfl; have SA := hs p1.toInt.toNat ha; have SB := hs p2.toInt.toNat hb; rw [show sm Q p0 p1.toInt.toNat = y5 from sm_of ey1 ey5] at SA; rw [show sm Q p0 p2.toInt.toNat = y12 from sm_of ey1 ey12] at SB; have A0 := SA.2.2.2; have B0 := SB.2.2.2; have mA := cxM_ok SA (okm_shp ok ha); have mB := cxM_ok SB (okm_shp ok hb); have ne5 : ¬ y5 = p0 := (fun e => by rw [e] at hKy5; omega); have ne12 : ¬ y12 = p0 := (fun e => by rw [e] at hKy12; omega); have va := fun k (hk : k < 8) => h.2.2.2.2 p2.toInt.toNat hb k hk; rw [nf_of ey16, show fb Q y16 p2.toInt.toNat = y23 from fb_of ey19 ey23] at va; have xb : z24.toInt = bX c p2.toInt.toNat := (by rw [ez24, va 1 (by decide)]; rfl); have yb : z38.toInt = bY c p2.toInt.toNat := (by rw [ez38, va 2 (by decide)]; rfl); have e100 : z100.toInt = (I y5 4).toInt := congrArg Int32.toInt (show z100 = I y5 4 by rw [ez100, fr_Iz77 y5 ne5]); have e104 : z104.toInt = (I y5 6).toInt := congrArg Int32.toInt (show z104 = I y5 6 by rw [ez104, fr_Iz77 y5 ne5]); have e123 : z123.toInt = (I y5 5).toInt := congrArg Int32.toInt (show z123 = I y5 5 by rw [ez123, fr_Iz77 y5 ne5]); have e127 : z127.toInt = (I y5 7).toInt := congrArg Int32.toInt (show z127 = I y5 7 by rw [ez127, fr_Iz77 y5 ne5]); have e110 : z110.toInt = (I y12 4).toInt := congrArg Int32.toInt (show z110 = I y12 4 by rw [ez110, fr_Iz77 y12 ne12]); have e116 : z116.toInt = (I y12 6).toInt := congrArg Int32.toInt (show z116 = I y12 6 by rw [ez116, fr_Iz77 y12 ne12]); have e133 : z133.toInt = (I y12 5).toInt := congrArg Int32.toInt (show z133 = I y12 5 by rw [ez133, fr_Iz77 y12 ne12]); have e139 : z139.toInt = (I y12 7).toInt := congrArg Int32.toInt (show z139 = I y12 7 by rw [ez139, fr_Iz77 y12 ne12]); have e203 : z203.toInt = (I y5 6).toInt := congrArg Int32.toInt (show z203 = I y5 6 by rw [ez203, fr_I162 y5 ne5]); have e208 : z208.toInt = (I y12 4).toInt := congrArg Int32.toInt (show z208 = I y12 4 by rw [ez208, fr_I162 y12 ne12]); exact bs_mv (g162 c ok h hs ha hb) (fun x y q => by by_cases w : bfr (bY c p2.toInt.toNat - v162_8.toInt) (-100000) y x; (exact Or.inl w); (exact Or.inr (Or.inl (bsC_z A0 B0 (by unfold bfr at q w; omega)))))) hP hS (lv_sub hl [1, 2, 3, 4, 5, 6, 7, 8, 9, 0] rfl)
          · have t196 := tq_nle (k := z193.toInt) (q := z182.toInt) c196 rfl rfl
            refine lv_goto (tgt := 307) hx hb dX5_findBest_199 (by decide) ?_
            exact j307 I162 _ _ _ hI162 fr_I162 (fun c ok h hs ha hb => by have pb := ok.2.2.2 _ hb; have pb1 := pb.2.1; have pb2 := pb.2.2.1; have pa := ok.2.2.2 _ ha; have pa1 := pa.2.1; have pa2 := pa.2.2.1; have eXb : bX c p2.toInt.toNat = (c.1 (19 + 8 * p2.toInt.toNat + 1)).toInt := rfl; have eYb : bY c p2.toInt.toNat = (c.1 (19 + 8 * p2.toInt.toNat + 2)).toInt := rfl; have eXa : bX c p1.toInt.toNat = (c.1 (19 + 8 * p1.toInt.toNat + 1)).toInt := rfl; have eYa : bY c p1.toInt.toNat = (c.1 (19 + 8 * p1.toInt.toNat + 2)).toInt := rfl; have SA := hs p1.toInt.toNat ha; have SB := hs p2.toInt.toNat hb; rw [show sm Q p0 p1.toInt.toNat = y5 from sm_of ey1 ey5] at SA; rw [show sm Q p0 p2.toInt.toNat = y12 from sm_of ey1 ey12] at SB; have A0 := SA.2.2.2; have B0 := SB.2.2.2; have mA := cxM_ok SA (okm_shp ok ha); have mB := cxM_ok SB (okm_shp ok hb); have ne5 : ¬ y5 = p0 := (fun e => by rw [e] at hKy5; omega); have ne12 : ¬ y12 = p0 := (fun e => by rw [e] at hKy12; omega); have va := fun k (hk : k < 8) => h.2.2.2.2 p2.toInt.toNat hb k hk; rw [nf_of ey16, show fb Q y16 p2.toInt.toNat = y23 from fb_of ey19 ey23] at va; have xb : z24.toInt = bX c p2.toInt.toNat := (by rw [ez24, va 1 (by decide)]; rfl); have yb : z38.toInt = bY c p2.toInt.toNat := (by rw [ez38, va 2 (by decide)]; rfl); have e100 : z100.toInt = (I y5 4).toInt := congrArg Int32.toInt (show z100 = I y5 4 by rw [ez100, fr_Iz77 y5 ne5]); have e104 : z104.toInt = (I y5 6).toInt := congrArg Int32.toInt (show z104 = I y5 6 by rw [ez104, fr_Iz77 y5 ne5]); have e123 : z123.toInt = (I y5 5).toInt := congrArg Int32.toInt (show z123 = I y5 5 by rw [ez123, fr_Iz77 y5 ne5]); have e127 : z127.toInt = (I y5 7).toInt := congrArg Int32.toInt (show z127 = I y5 7 by rw [ez127, fr_Iz77 y5 ne5]); have e110 : z110.toInt = (I y12 4).toInt := congrArg Int32.toInt (show z110 = I y12 4 by rw [ez110, fr_Iz77 y12 ne12]); have e116 : z116.toInt = (I y12 6).toInt := congrArg Int32.toInt (show z116 = I y12 6 by rw [ez116, fr_Iz77 y12 ne12]); have e133 : z133.toInt = (I y12 5).toInt := congrArg Int32.toInt (show z133 = I y12 5 by rw [ez133, fr_Iz77 y12 ne12]); have e139 : z139.toInt = (I y12 7).toInt := congrArg Int32.toInt (show z139 = I y12 7 by rw [ez139, fr_Iz77 y12 ne12]); have M5 : mko Q I162 J y5 := (by unfold mko; rw [fr_I162 y5 ne5]; exact mA); have M12 : mko Q I162 J y12 := (by unfold mko; rw [fr_I162 y12 ne12]; exact mB); have n5 : ¬ (I162 y5 3).toInt = 0 := (by rw [fr_I162 y5 ne5, ← fr_Iz77 y5 ne5, ← ez81]; exact t84); have n12 : ¬ (I162 y12 3).toInt = 0 := (by rw [fr_I162 y12 ne12, ← fr_Iz77 y12 ne12, ← ez89]; exact t92); have w : ∀ x, bsC c p1.toInt.toNat p2.toInt.toNat x (bY c p2.toInt.toNat - v162_8.toInt) ≤ z182.toInt := (fun x => by have k := xpz182 M5 M12 n5 n12 (bX c p2.toInt.toNat - x); rw [cm_congr SA.2.2.1 SB.2.2.1] at k; unfold bsC; rw [show bY c p2.toInt.toNat - (bY c p2.toInt.toNat - v162_8.toInt) = v162_8.toInt by omega]; exact k); have G := g162 c ok h hs ha hb; have d0 := bs_d G.2; have e188 : z188.toInt = (I162 p0 6).toInt := congrArg Int32.toInt ez188; exact bs_mv G (fun x y q => by by_cases v : bfr (bY c p2.toInt.toNat - v162_8.toInt) (-100000) y x; (exact Or.inl v); (by_cases e : y = bY c p2.toInt.toNat - v162_8.toInt; (have k := w x; rw [← e] at k; rcases Int.lt_or_le (I162 p0 6).toInt (bsC c p1.toInt.toNat p2.toInt.toNat x y) with u | u; (have cb := cm_b (mkw (shp c p1.toInt.toNat)) (mkw (shp c p2.toInt.toNat)) (bX c p2.toInt.toNat - x) (bY c p2.toInt.toNat - y); have cb2 : bsC c p1.toInt.toNat p2.toInt.toNat x y ≤ 5120 := cb.2; have a192 := tq_add (k := z188.toInt) (q := 1) ez192 rfl (by decide +kernel) (by omega) (by omega); exact Or.inr (Or.inr (Or.inr (by omega)))); (exact Or.inr (Or.inr (Or.inl u)))); (exact Or.inr (Or.inl (bsC_z A0 B0 (by unfold bfr at q v; omega))))))) hP hS (lv_sub hl [0, 1, 2, 3, 4, 5, 6, 7, 8] rfl))
      exact key162 _ z159 Iz77 _ _ _ rfl ⟨by omega, by omega⟩ hIz77 fr_Iz77 (by omega) (fun c ok h hs ha hb => by have pb := ok.2.2.2 _ hb; have pb1 := pb.2.1; have pb2 := pb.2.2.1; have pa := ok.2.2.2 _ ha; have pa1 := pa.2.1; have pa2 := pa.2.2.1; have eXb : bX c p2.toInt.toNat = (c.1 (19 + 8 * p2.toInt.toNat + 1)).toInt := rfl; have eYb : bY c p2.toInt.toNat = (c.1 (19 + 8 * p2.toInt.toNat + 2)).toInt := rfl; have eXa : bX c p1.toInt.toNat = (c.1 (19 + 8 * p1.toInt.toNat + 1)).toInt := rfl; have eYa : bY c p1.toInt.toNat = (c.1 (19 + 8 * p1.toInt.toNat + 2)).toInt := rfl; have SA := hs p1.toInt.toNat ha; have SB := hs p2.toInt.toNat hb; rw [show sm Q p0 p1.toInt.toNat = y5 from sm_of ey1 ey5] at SA; rw [show sm Q p0 p2.toInt.toNat = y12 from sm_of ey1 ey12] at SB; have A0 := SA.2.2.2; have B0 := SB.2.2.2; have mA := cxM_ok SA (okm_shp ok ha); have mB := cxM_ok SB (okm_shp ok hb); have ne5 : ¬ y5 = p0 := (fun e => by rw [e] at hKy5; omega); have ne12 : ¬ y12 = p0 := (fun e => by rw [e] at hKy12; omega); have va := fun k (hk : k < 8) => h.2.2.2.2 p2.toInt.toNat hb k hk; rw [nf_of ey16, show fb Q y16 p2.toInt.toNat = y23 from fb_of ey19 ey23] at va; have xb : z24.toInt = bX c p2.toInt.toNat := (by rw [ez24, va 1 (by decide)]; rfl); have yb : z38.toInt = bY c p2.toInt.toNat := (by rw [ez38, va 2 (by decide)]; rfl); have e100 : z100.toInt = (I y5 4).toInt := congrArg Int32.toInt (show z100 = I y5 4 by rw [ez100, fr_Iz77 y5 ne5]); have e104 : z104.toInt = (I y5 6).toInt := congrArg Int32.toInt (show z104 = I y5 6 by rw [ez104, fr_Iz77 y5 ne5]); have e123 : z123.toInt = (I y5 5).toInt := congrArg Int32.toInt (show z123 = I y5 5 by rw [ez123, fr_Iz77 y5 ne5]); have e127 : z127.toInt = (I y5 7).toInt := congrArg Int32.toInt (show z127 = I y5 7 by rw [ez127, fr_Iz77 y5 ne5]); have e110 : z110.toInt = (I y12 4).toInt := congrArg Int32.toInt (show z110 = I y12 4 by rw [ez110, fr_Iz77 y12 ne12]); have e116 : z116.toInt = (I y12 6).toInt := congrArg Int32.toInt (show z116 = I y12 6 by rw [ez116, fr_Iz77 y12 ne12]); have e133 : z133.toInt = (I y12 5).toInt := congrArg Int32.toInt (show z133 = I y12 5 by rw [ez133, fr_Iz77 y12 ne12]); have e139 : z139.toInt = (I y12 7).toInt := congrArg Int32.toInt (show z139 = I y12 7 by rw [ez139, fr_Iz77 y12 ne12]); have vb := fun k (hk : k < 8) => h.2.2.2.2 p1.toInt.toNat ha k hk; rw [nf_of ey16, show fb Q y16 p1.toInt.toNat = y57 from fb_of ey19 ey57] at vb; have ne57 : ¬ y57 = p0 := (fun e => by rw [e] at hKy57; omega); have f6 : (Iz77 p0 6).toInt = 0 := (by rw [qIz77, rz_fr _ _ _ _ (by decide), qIz61, rz_fr _ _ _ _ (by decide), qIz45, rz_at]; decide +kernel); have f7 : (Iz77 p0 7).toInt = bX c p1.toInt.toNat := (by rw [qIz77, rz_fr _ _ _ _ (by decide), qIz61, rz_at, ez58, fr_Iz45 y57 ne57, vb 1 (by decide)]; rfl); have f8 : (Iz77 p0 8).toInt = bY c p1.toInt.toNat := (by rw [qIz77, rz_at, ez74, fr_Iz61 y57 ne57, vb 2 (by decide)]; rfl); rw [f6, f7, f8]; exact bs_0 (fun x y q => bsC_z A0 B0 (by unfold bfr at q; omega))) hP hS (lv_sub hl [6, 7, 8, 5, 4, 3, 2, 1, 0] rfl)
    · have t92 := tq_eq (k := z89.toInt) (q := (0)) c92 rfl (by decide +kernel)
      subst hR; subst hQz
      exact W.vret hx hb hr (fun t ht hW => ⟨⟨(), rfl, trivial, ⟨Iz77, J, ⟨hIz77, fr_Iz77, (fun c ok h hs ha hb => by have pb := ok.2.2.2 _ hb; have pb1 := pb.2.1; have pb2 := pb.2.2.1; have pa := ok.2.2.2 _ ha; have pa1 := pa.2.1; have pa2 := pa.2.2.1; have eXb : bX c p2.toInt.toNat = (c.1 (19 + 8 * p2.toInt.toNat + 1)).toInt := rfl; have eYb : bY c p2.toInt.toNat = (c.1 (19 + 8 * p2.toInt.toNat + 2)).toInt := rfl; have eXa : bX c p1.toInt.toNat = (c.1 (19 + 8 * p1.toInt.toNat + 1)).toInt := rfl; have eYa : bY c p1.toInt.toNat = (c.1 (19 + 8 * p1.toInt.toNat + 2)).toInt := rfl; have SA := hs p1.toInt.toNat ha; have SB := hs p2.toInt.toNat hb; rw [show sm Q p0 p1.toInt.toNat = y5 from sm_of ey1 ey5] at SA; rw [show sm Q p0 p2.toInt.toNat = y12 from sm_of ey1 ey12] at SB; have A0 := SA.2.2.2; have B0 := SB.2.2.2; have mA := cxM_ok SA (okm_shp ok ha); have mB := cxM_ok SB (okm_shp ok hb); have ne5 : ¬ y5 = p0 := (fun e => by rw [e] at hKy5; omega); have ne12 : ¬ y12 = p0 := (fun e => by rw [e] at hKy12; omega); have va := fun k (hk : k < 8) => h.2.2.2.2 p2.toInt.toNat hb k hk; rw [nf_of ey16, show fb Q y16 p2.toInt.toNat = y23 from fb_of ey19 ey23] at va; have xb : z24.toInt = bX c p2.toInt.toNat := (by rw [ez24, va 1 (by decide)]; rfl); have yb : z38.toInt = bY c p2.toInt.toNat := (by rw [ez38, va 2 (by decide)]; rfl); have vb := fun k (hk : k < 8) => h.2.2.2.2 p1.toInt.toNat ha k hk; rw [nf_of ey16, show fb Q y16 p1.toInt.toNat = y57 from fb_of ey19 ey57] at vb; have ne57 : ¬ y57 = p0 := (fun e => by rw [e] at hKy57; omega); have f6 : (Iz77 p0 6).toInt = 0 := (by rw [qIz77, rz_fr _ _ _ _ (by decide), qIz61, rz_fr _ _ _ _ (by decide), qIz45, rz_at]; decide +kernel); have f7 : (Iz77 p0 7).toInt = bX c p1.toInt.toNat := (by rw [qIz77, rz_fr _ _ _ _ (by decide), qIz61, rz_at, ez58, fr_Iz45 y57 ne57, vb 1 (by decide)]; rfl); have f8 : (Iz77 p0 8).toInt = bY c p1.toInt.toNat := (by rw [qIz77, rz_at, ez74, fr_Iz61 y57 ne57, vb 2 (by decide)]; rfl); exact ⟨0, _, _, ⟨fun X Y => bsC_0 A0 B0 (by first | exact Or.inl (by rw [← fr_Iz77 y5 ne5, ← ez81]; exact t84) | exact Or.inr (by rw [← fr_Iz77 y12 ne12, ← ez89]; exact t92)) X Y, Or.inl ⟨rfl, rfl, rfl⟩⟩, f6, f7, f8⟩), dj_J⟩, by rw [ht]; exact hP⟩⟩, hS.F ht⟩) hS.2.2 dX5_findBest_95
