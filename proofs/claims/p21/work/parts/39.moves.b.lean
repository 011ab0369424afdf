abbrev cX7_crop : ByteArray := prog_9_method_78_code
def yX7_crop : MethodName := ⟨RX7, "crop", "(I)I"⟩
theorem dX7_crop_0 : decode cX7_crop 0 = .ok (.aload_n 0, 1) := by decide +kernel
theorem dX7_crop_1 : decode cX7_crop 1 = .ok (.iload_n 1, 1) := by decide +kernel
theorem dX7_crop_2 : decode cX7_crop 2 = .ok (.invokevirtual 301, 3) := by decide +kernel
theorem dX7_crop_5 : decode cX7_crop 5 = .ok (.ifCond .ne 5, 3) := by decide +kernel
theorem dX7_crop_8 : decode cX7_crop 8 = .ok (.iconst (-1), 1) := by decide +kernel
theorem dX7_crop_9 : decode cX7_crop 9 = .ok (.ireturn, 1) := by decide +kernel
theorem dX7_crop_10 : decode cX7_crop 10 = .ok (.aload_n 0, 1) := by decide +kernel
theorem dX7_crop_11 : decode cX7_crop 11 = .ok (.iload_n 1, 1) := by decide +kernel
theorem dX7_crop_12 : decode cX7_crop 12 = .ok (.invokevirtual 346, 3) := by decide +kernel
theorem dX7_crop_15 : decode cX7_crop 15 = .ok (.ifCond .eq 53, 3) := by decide +kernel
theorem dX7_crop_18 : decode cX7_crop 18 = .ok (.aload_n 0, 1) := by decide +kernel
theorem dX7_crop_19 : decode cX7_crop 19 = .ok (.getfield 55, 3) := by decide +kernel
theorem dX7_crop_22 : decode cX7_crop 22 = .ok (.iconst 0, 1) := by decide +kernel
theorem dX7_crop_23 : decode cX7_crop 23 = .ok (.iaload, 1) := by decide +kernel
theorem dX7_crop_24 : decode cX7_crop 24 = .ok (.ifCond .ne 47, 3) := by decide +kernel
theorem dX7_crop_27 : decode cX7_crop 27 = .ok (.aload_n 0, 1) := by decide +kernel
theorem dX7_crop_28 : decode cX7_crop 28 = .ok (.getfield 55, 3) := by decide +kernel
theorem dX7_crop_31 : decode cX7_crop 31 = .ok (.iconst 1, 1) := by decide +kernel
theorem dX7_crop_32 : decode cX7_crop 32 = .ok (.iaload, 1) := by decide +kernel
theorem dX7_crop_33 : decode cX7_crop 33 = .ok (.ifCond .ne 38, 3) := by decide +kernel
theorem dX7_crop_36 : decode cX7_crop 36 = .ok (.aload_n 0, 1) := by decide +kernel
theorem dX7_crop_37 : decode cX7_crop 37 = .ok (.getfield 55, 3) := by decide +kernel
theorem dX7_crop_40 : decode cX7_crop 40 = .ok (.iconst 2, 1) := by decide +kernel
theorem dX7_crop_41 : decode cX7_crop 41 = .ok (.iaload, 1) := by decide +kernel
theorem dX7_crop_42 : decode cX7_crop 42 = .ok (.aload_n 0, 1) := by decide +kernel
theorem dX7_crop_43 : decode cX7_crop 43 = .ok (.iload_n 1, 1) := by decide +kernel
theorem dX7_crop_44 : decode cX7_crop 44 = .ok (.invokevirtual 202, 3) := by decide +kernel
theorem dX7_crop_47 : decode cX7_crop 47 = .ok (.iconst 1, 1) := by decide +kernel
theorem dX7_crop_48 : decode cX7_crop 48 = .ok (.isub, 1) := by decide +kernel
theorem dX7_crop_49 : decode cX7_crop 49 = .ok (.if_icmp .ne 22, 3) := by decide +kernel
theorem dX7_crop_52 : decode cX7_crop 52 = .ok (.aload_n 0, 1) := by decide +kernel
theorem dX7_crop_53 : decode cX7_crop 53 = .ok (.getfield 55, 3) := by decide +kernel
theorem dX7_crop_56 : decode cX7_crop 56 = .ok (.iconst 3, 1) := by decide +kernel
theorem dX7_crop_57 : decode cX7_crop 57 = .ok (.iaload, 1) := by decide +kernel
theorem dX7_crop_58 : decode cX7_crop 58 = .ok (.aload_n 0, 1) := by decide +kernel
theorem dX7_crop_59 : decode cX7_crop 59 = .ok (.iload_n 1, 1) := by decide +kernel
theorem dX7_crop_60 : decode cX7_crop 60 = .ok (.invokevirtual 205, 3) := by decide +kernel
theorem dX7_crop_63 : decode cX7_crop 63 = .ok (.iconst 1, 1) := by decide +kernel
theorem dX7_crop_64 : decode cX7_crop 64 = .ok (.isub, 1) := by decide +kernel
theorem dX7_crop_65 : decode cX7_crop 65 = .ok (.if_icmp .ne 6, 3) := by decide +kernel
theorem dX7_crop_68 : decode cX7_crop 68 = .ok (.bipush (-2), 2) := by decide +kernel
theorem dX7_crop_70 : decode cX7_crop 70 = .ok (.ireturn, 1) := by decide +kernel
theorem dX7_crop_71 : decode cX7_crop 71 = .ok (.iconst 0, 1) := by decide +kernel
theorem dX7_crop_72 : decode cX7_crop 72 = .ok (.istore_n 2, 1) := by decide +kernel
theorem dX7_crop_73 : decode cX7_crop 73 = .ok (.iload_n 2, 1) := by decide +kernel
theorem dX7_crop_74 : decode cX7_crop 74 = .ok (.aload_n 0, 1) := by decide +kernel
theorem dX7_crop_75 : decode cX7_crop 75 = .ok (.getfield 9, 3) := by decide +kernel
theorem dX7_crop_78 : decode cX7_crop 78 = .ok (.iconst 1, 1) := by decide +kernel
theorem dX7_crop_79 : decode cX7_crop 79 = .ok (.iaload, 1) := by decide +kernel
theorem dX7_crop_80 : decode cX7_crop 80 = .ok (.if_icmp .ge 59, 3) := by decide +kernel
theorem dX7_crop_83 : decode cX7_crop 83 = .ok (.aload_n 0, 1) := by decide +kernel
theorem dX7_crop_84 : decode cX7_crop 84 = .ok (.iload_n 2, 1) := by decide +kernel
theorem dX7_crop_85 : decode cX7_crop 85 = .ok (.invokevirtual 212, 3) := by decide +kernel
theorem dX7_crop_88 : decode cX7_crop 88 = .ok (.iload_n 1, 1) := by decide +kernel
theorem dX7_crop_89 : decode cX7_crop 89 = .ok (.if_icmp .ne 44, 3) := by decide +kernel
theorem dX7_crop_92 : decode cX7_crop 92 = .ok (.aload_n 0, 1) := by decide +kernel
theorem dX7_crop_93 : decode cX7_crop 93 = .ok (.iload_n 2, 1) := by decide +kernel
theorem dX7_crop_94 : decode cX7_crop 94 = .ok (.iconst 1, 1) := by decide +kernel
theorem dX7_crop_95 : decode cX7_crop 95 = .ok (.invokevirtual 199, 3) := by decide +kernel
theorem dX7_crop_98 : decode cX7_crop 98 = .ok (.aload_n 0, 1) := by decide +kernel
theorem dX7_crop_99 : decode cX7_crop 99 = .ok (.iload_n 1, 1) := by decide +kernel
theorem dX7_crop_100 : decode cX7_crop 100 = .ok (.iload_n 2, 1) := by decide +kernel
theorem dX7_crop_101 : decode cX7_crop 101 = .ok (.invokevirtual 349, 3) := by decide +kernel
theorem dX7_crop_104 : decode cX7_crop 104 = .ok (.iadd, 1) := by decide +kernel
theorem dX7_crop_105 : decode cX7_crop 105 = .ok (.sipush 999, 3) := by decide +kernel
theorem dX7_crop_108 : decode cX7_crop 108 = .ok (.if_icmp .gt 22, 3) := by decide +kernel
theorem dX7_crop_111 : decode cX7_crop 111 = .ok (.aload_n 0, 1) := by decide +kernel
theorem dX7_crop_112 : decode cX7_crop 112 = .ok (.iload_n 2, 1) := by decide +kernel
theorem dX7_crop_113 : decode cX7_crop 113 = .ok (.iconst 2, 1) := by decide +kernel
theorem dX7_crop_114 : decode cX7_crop 114 = .ok (.invokevirtual 199, 3) := by decide +kernel
theorem dX7_crop_117 : decode cX7_crop 117 = .ok (.aload_n 0, 1) := by decide +kernel
theorem dX7_crop_118 : decode cX7_crop 118 = .ok (.iload_n 1, 1) := by decide +kernel
theorem dX7_crop_119 : decode cX7_crop 119 = .ok (.iload_n 2, 1) := by decide +kernel
theorem dX7_crop_120 : decode cX7_crop 120 = .ok (.invokevirtual 352, 3) := by decide +kernel
theorem dX7_crop_123 : decode cX7_crop 123 = .ok (.iadd, 1) := by decide +kernel
theorem dX7_crop_124 : decode cX7_crop 124 = .ok (.sipush 999, 3) := by decide +kernel
theorem dX7_crop_127 : decode cX7_crop 127 = .ok (.if_icmp .le 6, 3) := by decide +kernel
theorem dX7_crop_130 : decode cX7_crop 130 = .ok (.bipush (-3), 2) := by decide +kernel
theorem dX7_crop_132 : decode cX7_crop 132 = .ok (.ireturn, 1) := by decide +kernel
theorem dX7_crop_133 : decode cX7_crop 133 = .ok (.iinc 2 1, 3) := by decide +kernel
theorem dX7_crop_136 : decode cX7_crop 136 = .ok (.goto (-63), 3) := by decide +kernel
theorem dX7_crop_139 : decode cX7_crop 139 = .ok (.aload_n 0, 1) := by decide +kernel
theorem dX7_crop_140 : decode cX7_crop 140 = .ok (.invokevirtual 286, 3) := by decide +kernel
theorem dX7_crop_143 : decode cX7_crop 143 = .ok (.iconst 0, 1) := by decide +kernel
theorem dX7_crop_144 : decode cX7_crop 144 = .ok (.istore_n 2, 1) := by decide +kernel
theorem dX7_crop_145 : decode cX7_crop 145 = .ok (.iload_n 2, 1) := by decide +kernel
theorem dX7_crop_146 : decode cX7_crop 146 = .ok (.aload_n 0, 1) := by decide +kernel
theorem dX7_crop_147 : decode cX7_crop 147 = .ok (.getfield 9, 3) := by decide +kernel
theorem dX7_crop_150 : decode cX7_crop 150 = .ok (.iconst 1, 1) := by decide +kernel
theorem dX7_crop_151 : decode cX7_crop 151 = .ok (.iaload, 1) := by decide +kernel
theorem dX7_crop_152 : decode cX7_crop 152 = .ok (.if_icmp .ge 35, 3) := by decide +kernel
theorem dX7_crop_155 : decode cX7_crop 155 = .ok (.aload_n 0, 1) := by decide +kernel
theorem dX7_crop_156 : decode cX7_crop 156 = .ok (.iload_n 2, 1) := by decide +kernel
theorem dX7_crop_157 : decode cX7_crop 157 = .ok (.invokevirtual 212, 3) := by decide +kernel
theorem dX7_crop_160 : decode cX7_crop 160 = .ok (.iload_n 1, 1) := by decide +kernel
theorem dX7_crop_161 : decode cX7_crop 161 = .ok (.if_icmp .ne 20, 3) := by decide +kernel
theorem dX7_crop_164 : decode cX7_crop 164 = .ok (.aload_n 0, 1) := by decide +kernel
theorem dX7_crop_165 : decode cX7_crop 165 = .ok (.iload_n 2, 1) := by decide +kernel
theorem dX7_crop_166 : decode cX7_crop 166 = .ok (.aload_n 0, 1) := by decide +kernel
theorem dX7_crop_167 : decode cX7_crop 167 = .ok (.iload_n 1, 1) := by decide +kernel
theorem dX7_crop_168 : decode cX7_crop 168 = .ok (.iload_n 2, 1) := by decide +kernel
theorem dX7_crop_169 : decode cX7_crop 169 = .ok (.invokevirtual 349, 3) := by decide +kernel
theorem dX7_crop_172 : decode cX7_crop 172 = .ok (.aload_n 0, 1) := by decide +kernel
theorem dX7_crop_173 : decode cX7_crop 173 = .ok (.iload_n 1, 1) := by decide +kernel
theorem dX7_crop_174 : decode cX7_crop 174 = .ok (.iload_n 2, 1) := by decide +kernel
theorem dX7_crop_175 : decode cX7_crop 175 = .ok (.invokevirtual 352, 3) := by decide +kernel
theorem dX7_crop_178 : decode cX7_crop 178 = .ok (.invokevirtual 283, 3) := by decide +kernel
theorem dX7_crop_181 : decode cX7_crop 181 = .ok (.iinc 2 1, 3) := by decide +kernel
theorem dX7_crop_184 : decode cX7_crop 184 = .ok (.goto (-39), 3) := by decide +kernel
theorem dX7_crop_187 : decode cX7_crop 187 = .ok (.aload_n 0, 1) := by decide +kernel
theorem dX7_crop_188 : decode cX7_crop 188 = .ok (.invokevirtual 304, 3) := by decide +kernel
theorem dX7_crop_191 : decode cX7_crop 191 = .ok (.aload_n 0, 1) := by decide +kernel
theorem dX7_crop_192 : decode cX7_crop 192 = .ok (.getfield 55, 3) := by decide +kernel
theorem dX7_crop_195 : decode cX7_crop 195 = .ok (.iconst 1, 1) := by decide +kernel
theorem dX7_crop_196 : decode cX7_crop 196 = .ok (.iaload, 1) := by decide +kernel
theorem dX7_crop_197 : decode cX7_crop 197 = .ok (.istore_n 2, 1) := by decide +kernel
theorem dX7_crop_198 : decode cX7_crop 198 = .ok (.iload_n 2, 1) := by decide +kernel
theorem dX7_crop_199 : decode cX7_crop 199 = .ok (.aload_n 0, 1) := by decide +kernel
theorem dX7_crop_200 : decode cX7_crop 200 = .ok (.getfield 55, 3) := by decide +kernel
theorem dX7_crop_203 : decode cX7_crop 203 = .ok (.iconst 3, 1) := by decide +kernel
theorem dX7_crop_204 : decode cX7_crop 204 = .ok (.iaload, 1) := by decide +kernel
theorem dX7_crop_205 : decode cX7_crop 205 = .ok (.if_icmp .gt 66, 3) := by decide +kernel
theorem dX7_crop_208 : decode cX7_crop 208 = .ok (.aload_n 0, 1) := by decide +kernel
theorem dX7_crop_209 : decode cX7_crop 209 = .ok (.getfield 55, 3) := by decide +kernel
theorem dX7_crop_212 : decode cX7_crop 212 = .ok (.iconst 0, 1) := by decide +kernel
theorem dX7_crop_213 : decode cX7_crop 213 = .ok (.iaload, 1) := by decide +kernel
theorem dX7_crop_214 : decode cX7_crop 214 = .ok (.istore_n 3, 1) := by decide +kernel
theorem dX7_crop_215 : decode cX7_crop 215 = .ok (.iload_n 3, 1) := by decide +kernel
theorem dX7_crop_216 : decode cX7_crop 216 = .ok (.aload_n 0, 1) := by decide +kernel
theorem dX7_crop_217 : decode cX7_crop 217 = .ok (.getfield 55, 3) := by decide +kernel
theorem dX7_crop_220 : decode cX7_crop 220 = .ok (.iconst 2, 1) := by decide +kernel
theorem dX7_crop_221 : decode cX7_crop 221 = .ok (.iaload, 1) := by decide +kernel
theorem dX7_crop_222 : decode cX7_crop 222 = .ok (.if_icmp .gt 43, 3) := by decide +kernel
theorem dX7_crop_225 : decode cX7_crop 225 = .ok (.aload_n 0, 1) := by decide +kernel
theorem dX7_crop_226 : decode cX7_crop 226 = .ok (.iload_n 1, 1) := by decide +kernel
theorem dX7_crop_227 : decode cX7_crop 227 = .ok (.iload_n 3, 1) := by decide +kernel
theorem dX7_crop_228 : decode cX7_crop 228 = .ok (.iload_n 2, 1) := by decide +kernel
theorem dX7_crop_229 : decode cX7_crop 229 = .ok (.invokevirtual 215, 3) := by decide +kernel
theorem dX7_crop_232 : decode cX7_crop 232 = .ok (.ifCond .eq 27, 3) := by decide +kernel
theorem dX7_crop_235 : decode cX7_crop 235 = .ok (.aload_n 0, 1) := by decide +kernel
theorem dX7_crop_236 : decode cX7_crop 236 = .ok (.getfield 52, 3) := by decide +kernel
theorem dX7_crop_239 : decode cX7_crop 239 = .ok (.iconst 0, 1) := by decide +kernel
theorem dX7_crop_240 : decode cX7_crop 240 = .ok (.iload_n 3, 1) := by decide +kernel
theorem dX7_crop_241 : decode cX7_crop 241 = .ok (.aload_n 0, 1) := by decide +kernel
theorem dX7_crop_242 : decode cX7_crop 242 = .ok (.getfield 55, 3) := by decide +kernel
theorem dX7_crop_245 : decode cX7_crop 245 = .ok (.iconst 0, 1) := by decide +kernel
theorem dX7_crop_246 : decode cX7_crop 246 = .ok (.iaload, 1) := by decide +kernel
theorem dX7_crop_247 : decode cX7_crop 247 = .ok (.isub, 1) := by decide +kernel
theorem dX7_crop_248 : decode cX7_crop 248 = .ok (.iload_n 2, 1) := by decide +kernel
theorem dX7_crop_249 : decode cX7_crop 249 = .ok (.aload_n 0, 1) := by decide +kernel
theorem dX7_crop_250 : decode cX7_crop 250 = .ok (.getfield 55, 3) := by decide +kernel
theorem dX7_crop_253 : decode cX7_crop 253 = .ok (.iconst 1, 1) := by decide +kernel
theorem dX7_crop_254 : decode cX7_crop 254 = .ok (.iaload, 1) := by decide +kernel
theorem dX7_crop_255 : decode cX7_crop 255 = .ok (.isub, 1) := by decide +kernel
theorem dX7_crop_256 : decode cX7_crop 256 = .ok (.invokestatic 157, 3) := by decide +kernel
theorem dX7_crop_259 : decode cX7_crop 259 = .ok (.iinc 3 1, 3) := by decide +kernel
theorem dX7_crop_262 : decode cX7_crop 262 = .ok (.goto (-47), 3) := by decide +kernel
theorem dX7_crop_265 : decode cX7_crop 265 = .ok (.iinc 2 1, 3) := by decide +kernel
theorem dX7_crop_268 : decode cX7_crop 268 = .ok (.goto (-70), 3) := by decide +kernel
theorem dX7_crop_271 : decode cX7_crop 271 = .ok (.aload_n 0, 1) := by decide +kernel
theorem dX7_crop_272 : decode cX7_crop 272 = .ok (.iload_n 1, 1) := by decide +kernel
theorem dX7_crop_273 : decode cX7_crop 273 = .ok (.invokevirtual 310, 3) := by decide +kernel
theorem dX7_crop_276 : decode cX7_crop 276 = .ok (.aload_n 0, 1) := by decide +kernel
theorem dX7_crop_277 : decode cX7_crop 277 = .ok (.getfield 9, 3) := by decide +kernel
theorem dX7_crop_280 : decode cX7_crop 280 = .ok (.iconst 3, 1) := by decide +kernel
theorem dX7_crop_281 : decode cX7_crop 281 = .ok (.iload_n 1, 1) := by decide +kernel
theorem dX7_crop_282 : decode cX7_crop 282 = .ok (.iadd, 1) := by decide +kernel
theorem dX7_crop_283 : decode cX7_crop 283 = .ok (.aload_n 0, 1) := by decide +kernel
theorem dX7_crop_284 : decode cX7_crop 284 = .ok (.getfield 55, 3) := by decide +kernel
theorem dX7_crop_287 : decode cX7_crop 287 = .ok (.iconst 2, 1) := by decide +kernel
theorem dX7_crop_288 : decode cX7_crop 288 = .ok (.iaload, 1) := by decide +kernel
theorem dX7_crop_289 : decode cX7_crop 289 = .ok (.aload_n 0, 1) := by decide +kernel
theorem dX7_crop_290 : decode cX7_crop 290 = .ok (.getfield 55, 3) := by decide +kernel
theorem dX7_crop_293 : decode cX7_crop 293 = .ok (.iconst 0, 1) := by decide +kernel
theorem dX7_crop_294 : decode cX7_crop 294 = .ok (.iaload, 1) := by decide +kernel
theorem dX7_crop_295 : decode cX7_crop 295 = .ok (.isub, 1) := by decide +kernel
theorem dX7_crop_296 : decode cX7_crop 296 = .ok (.iconst 1, 1) := by decide +kernel
theorem dX7_crop_297 : decode cX7_crop 297 = .ok (.iadd, 1) := by decide +kernel
theorem dX7_crop_298 : decode cX7_crop 298 = .ok (.iastore, 1) := by decide +kernel
theorem dX7_crop_299 : decode cX7_crop 299 = .ok (.aload_n 0, 1) := by decide +kernel
theorem dX7_crop_300 : decode cX7_crop 300 = .ok (.getfield 9, 3) := by decide +kernel
theorem dX7_crop_303 : decode cX7_crop 303 = .ok (.bipush 11, 2) := by decide +kernel
theorem dX7_crop_305 : decode cX7_crop 305 = .ok (.iload_n 1, 1) := by decide +kernel
theorem dX7_crop_306 : decode cX7_crop 306 = .ok (.iadd, 1) := by decide +kernel
theorem dX7_crop_307 : decode cX7_crop 307 = .ok (.aload_n 0, 1) := by decide +kernel
theorem dX7_crop_308 : decode cX7_crop 308 = .ok (.getfield 55, 3) := by decide +kernel
theorem dX7_crop_311 : decode cX7_crop 311 = .ok (.iconst 3, 1) := by decide +kernel
theorem dX7_crop_312 : decode cX7_crop 312 = .ok (.iaload, 1) := by decide +kernel
theorem dX7_crop_313 : decode cX7_crop 313 = .ok (.aload_n 0, 1) := by decide +kernel
theorem dX7_crop_314 : decode cX7_crop 314 = .ok (.getfield 55, 3) := by decide +kernel
theorem dX7_crop_317 : decode cX7_crop 317 = .ok (.iconst 1, 1) := by decide +kernel
theorem dX7_crop_318 : decode cX7_crop 318 = .ok (.iaload, 1) := by decide +kernel
theorem dX7_crop_319 : decode cX7_crop 319 = .ok (.isub, 1) := by decide +kernel
theorem dX7_crop_320 : decode cX7_crop 320 = .ok (.iconst 1, 1) := by decide +kernel
theorem dX7_crop_321 : decode cX7_crop 321 = .ok (.iadd, 1) := by decide +kernel
theorem dX7_crop_322 : decode cX7_crop 322 = .ok (.iastore, 1) := by decide +kernel
theorem dX7_crop_323 : decode cX7_crop 323 = .ok (.aload_n 0, 1) := by decide +kernel
theorem dX7_crop_324 : decode cX7_crop 324 = .ok (.iload_n 1, 1) := by decide +kernel
theorem dX7_crop_325 : decode cX7_crop 325 = .ok (.invokevirtual 202, 3) := by decide +kernel
theorem dX7_crop_328 : decode cX7_crop 328 = .ok (.aload_n 0, 1) := by decide +kernel
theorem dX7_crop_329 : decode cX7_crop 329 = .ok (.iload_n 1, 1) := by decide +kernel
theorem dX7_crop_330 : decode cX7_crop 330 = .ok (.invokevirtual 205, 3) := by decide +kernel
theorem dX7_crop_333 : decode cX7_crop 333 = .ok (.imul, 1) := by decide +kernel
theorem dX7_crop_334 : decode cX7_crop 334 = .ok (.ireturn, 1) := by decide +kernel
set_option maxRecDepth 100000 in
theorem pq53 : Cond.selects RX7 yX7_reaches yX7_reaches ∈ pw := pw_mem (i := 53) (by decide +kernel) rfl
set_option maxRecDepth 100000 in
theorem pq54 : Cond.selects RX7 yX7_leftOf yX7_leftOf ∈ pw := pw_mem (i := 54) (by decide +kernel) rfl
set_option maxRecDepth 100000 in
theorem pq55 : Cond.selects RX7 yX7_aboveOf yX7_aboveOf ∈ pw := pw_mem (i := 55) (by decide +kernel) rfl
set_option maxRecDepth 100000 in
theorem pq1506 : Cond.methodLink RX7 346 yX7_reaches ∈ pw := pw_mem (i := 1506) (by decide +kernel) rfl
set_option maxRecDepth 100000 in
theorem pq1508 : Cond.instanceMethod yX7_reaches ∈ pw := pw_mem (i := 1508) (by decide +kernel) rfl
set_option maxRecDepth 100000 in
theorem pq1509 : Cond.code yX7_reaches cX7_reaches 5 (some .boolean) ∈ pw := pw_mem (i := 1509) (by rfl) rfl
set_option maxRecDepth 100000 in
theorem pq1510 : Cond.methodLink RX7 349 yX7_leftOf ∈ pw := pw_mem (i := 1510) (by decide +kernel) rfl
set_option maxRecDepth 100000 in
theorem pq1512 : Cond.instanceMethod yX7_leftOf ∈ pw := pw_mem (i := 1512) (by decide +kernel) rfl
set_option maxRecDepth 100000 in
theorem pq1513 : Cond.code yX7_leftOf cX7_leftOf 3 (some .int) ∈ pw := pw_mem (i := 1513) (by rfl) rfl
set_option maxRecDepth 100000 in
theorem pq1514 : Cond.methodLink RX7 352 yX7_aboveOf ∈ pw := pw_mem (i := 1514) (by decide +kernel) rfl
set_option maxRecDepth 100000 in
theorem pq1516 : Cond.instanceMethod yX7_aboveOf ∈ pw := pw_mem (i := 1516) (by decide +kernel) rfl
set_option maxRecDepth 100000 in
theorem pq1517 : Cond.code yX7_aboveOf cX7_aboveOf 3 (some .int) ∈ pw := pw_mem (i := 1517) (by rfl) rfl
set_option maxHeartbeats 4000000 in
set_option maxRecDepth 100000 in
theorem s_X7_crop (l : Launch) (dC : Nat → ClassId) (dI : Nat → Nat → Nat) (cs : Nat → ClassId) (L : List Nat) (K G : Nat → Nat) (Q : Nat → Nat → Option Nat) (hQ : Sv L K G Q) (x0 m0 : Nat) (tx : GT) (tm : GT × Int) (sz : Nat) (I : Nat → Nat → Int32) (J : Nat → Nat → Int64) (hI : Iv L K x0 m0 tx tm I) (p0 : Nat) (hLp0 : p0 ∈ L) (hKp0 : K p0 = 7) (p1 : Int32) (hIo : Iv L K x0 m0 tx (tm.1, tm.2 - 5000) I) : Met l yX7_crop (.code yX7_crop cX7_crop 4 (some .int) :: pw) ({ frames := 3, cells := 0, slots := 0, locals := 72 }) (sP (dC, dI) cs [.ref p0, .int p1] sz L K I J Q) (va_Qi (fun (r : Int32) (_ : Unit) => True) (fun _ t => sB (dC, dI) cs L K Q (fun I1 => Iv L K x0 m0 tx tm I1 ∧ cmT Q I p0 I1 ∧ (∀ b, K b = 1 ∨ K b = 6 → I1 b = I b)) t) (fun q => q ∈ L ∨ sz ≤ q)) 0 0 (fun q => q ∈ L ∨ sz ≤ q) := by
  refine Met.ofW (cc := cX7_crop) (maxL := 4) (ret := (some .int)) (by decide +kernel) rfl ?_
  intro p e s m args below meth c s₁ B hml hv
  obtain ⟨rfl, hsz, hP, hK, hD0, hN⟩ := hv
  have hx := B.exec
  have hb := B.bytes
  have hr := B.returns
  have hts := fun w (h : w ∈ pw) => atoms_spec (ws := Cond.code yX7_crop cX7_crop 4 (some .int) :: pw) B.pre w (List.mem_cons_of_mem _ h)
  have hown : s.vm.findClass RX7 = some m.cls := findClass_of_methodNamed B.named
  have hlocks := B.notSynchronized
  subst hsz
  have hBB : 999 ≤ tm.2 ∧ tm.2 ≤ 6000000 := hI.2.2.2.2.1
  have dn_I : (∀ b, K b = 1 ∨ K b = 6 → I b = I b) := fun _ _ => rfl
  have cn_I : cmT Q I p0 I := cmT_refl
  obtain ⟨A, hAe⟩ : ∃ A : Nat → Prop, A = (fun q => q ∈ L ∨ s.heap.size ≤ q) := ⟨_, rfl⟩
  rw [← hAe]
  have hAL : ∀ q, q ∈ L → A q := fun q h => by rw [hAe]; exact Or.inl h
  have hA : ∀ q, s.heap.size ≤ q → A q := fun q h => by rw [hAe]; exact Or.inr h
  have hD : ∀ F, va_D A (va_pl L F) := fun F => (hD0 F).weaken (fun k q hk _ => hAL _ (pl_mem hk))
  obtain ⟨H, hHe⟩ : ∃ H : Heap, H = s.heap := ⟨_, rfl⟩
  have hS : va_S A s.heap H [] := by rw [hHe]; exact va_S.rf
  rw [← hHe] at hP
  have hl := lv_entry ([.ref p0, .int p1]) (n := 4) (Nat.le_of_ble_eq_true rfl)
  rw [lg_entry_eq]
  generalize (lg_sl ([.ref p0, .int p1]) ++ List.replicate (4 - (lg_sl ([.ref p0, .int p1])).length) Slot.unset).toArray = ls at hl ⊢
  have hl : lv_has ls 4 [(0, .ref p0), (1, .int p1)] := hl
  rw [← hHe]
  refine namedW (fun R Qz hR hQz => ?_)
  have cr0 : crM (I ((Q p0 0).getD 0)) (tm.2 - 5000) := fun b => nwB (Iv_at hIo (nw_of hQ hLp0 hKp0).1 (nw_of hQ hLp0 hKp0).2)
  have nn0 : 999 ≤ tm.2 - 5000 := hIo.2.2.2.2.1.1
  refine lv_aload_n hx hb dX7_crop_0 rfl (lv_at hl 0 rfl) ?_
  refine lv_iload_n hx hb dX7_crop_1 rfl (lv_at hl 1 rfl) ?_
  refine ro_i (va_runV (As := [.int p1]) (rest := []) ⟨hx, hb, hml, hown, hts⟩ (s_X7_isMask l dC dI cs L K G Q hQ x0 m0 tx tm H.size I J hI p0 hLp0 hKp0 p1) (cwV 1 hts (gV pq1364 pq1366 pq31 pq81 pq1367) rfl rfl rfl (by decide +kernel) ⟨(by rw [hR]; exact (Nat.le_of_ble_eq_true rfl)), (by rw [hR]; exact (Nat.le_of_ble_eq_true rfl))⟩) (sP_V hP hD hK hN hLp0 hKp0 rfl rfl) rfl rfl hl.1 rfl (lv_room (Nat.le_of_ble_eq_true rfl)) dX7_crop_2 ⟨(by rw [hR]; exact (Nat.le_of_ble_eq_true rfl)), (by rw [hR]; exact (Nat.le_of_ble_eq_true rfl))⟩) hS hP (fun z2 H locs hz2 hP hS => ?_)
  obtain ⟨bz2, imz2⟩ := hz2
  refine lv_if_ne (tgt := 10) hx hb dX7_crop_5 (by decide) (fun c5 => ?_) (fun c5 => ?_)
  · have t5 := tq_ne (k := z2.toInt) (q := (0)) c5 rfl (by decide +kernel)
    have i5 := imz2 t5
    refine lv_aload_n hx hb dX7_crop_10 rfl (lv_at hl 0 rfl) ?_
    refine lv_iload_n hx hb dX7_crop_11 rfl (lv_at hl 1 rfl) ?_
    refine sw_i (Z := (fun I1 => Iv L K x0 m0 tx tm I1 ∧ (∀ b, ¬ (K b = 26) → I1 b = I b) ∧ cmT Q I p0 I1 ∧ (∀ b, K b = 1 ∨ K b = 6 → I1 b = I b))) (va_runV (As := [.int p1]) (rest := []) ⟨hx, hb, hml, hown, hts⟩ (s_X7_reaches l dC dI cs L K G Q hQ x0 m0 tx tm H.size I J hI p0 hLp0 hKp0 p1 ⟨by omega, by omega⟩) (cwV 1 hts (gV pq1506 pq1508 pq53 pq81 pq1509) rfl rfl rfl (by decide +kernel) ⟨(by rw [hR]; exact (Nat.le_of_ble_eq_true rfl)), (by rw [hR]; exact (Nat.le_of_ble_eq_true rfl))⟩) (sP_V hP hD hK hN hLp0 hKp0 rfl rfl) rfl rfl hl.1 rfl (lv_room (Nat.le_of_ble_eq_true rfl)) dX7_crop_12 ⟨(by rw [hR]; exact (Nat.le_of_ble_eq_true rfl)), (by rw [hR]; exact (Nat.le_of_ble_eq_true rfl))⟩) hS hAL hA (fun z12 Iz12 Jz12 H locs hz12 hIz12 hP hS => ?_)
    obtain ⟨hIz12, frc12, cnc12, dnc12⟩ := hIz12
    have dn_Iz12 : (∀ b, K b = 1 ∨ K b = 6 → Iz12 b = I b) := fun b hc => (dnc12 b (by omega)).trans (dn_I b hc)
    have cn_Iz12 := cmT_tr cn_I cnc12
    have bz12 := hz12
    refine lv_if_eq (tgt := 68) hx hb dX7_crop_15 (by decide) (fun c15 => ?_) (fun c15 => ?_)
    · have t15 := tq_eq (k := z12.toInt) (q := (0)) c15 rfl (by decide +kernel)
      refine lv_bipush (v := (-2)) hx hb dX7_crop_68 (by decide +kernel) ?_
      subst hR; subst hQz
      exact W.iret (v := (-2)) hx hb hr (fun t ht hW => ⟨⟨(-2), (), rfl, trivial, ⟨Iz12, Jz12, ⟨hIz12, cn_Iz12, dn_Iz12⟩, by rw [ht]; exact hP⟩⟩, hS.F ht⟩) hS.2.2 dX7_crop_70
    · have t15 := tq_ne (k := z12.toInt) (q := (0)) c15 rfl (by decide +kernel)
      refine lv_aload_n hx hb dX7_crop_18 rfl (lv_at hl 0 rfl) ?_
      obtain ⟨y19, ey19, hLy19, hKy19⟩ := oQ_7_20 (Sv_at hQ hLp0 hKp0)
      refine p_get (v := .ref y19) hx hb hts inX7 hown hK hP hLp0 hKp0 rfl rfl 20 (by decide) (hts _ pq1135) (congrArg (fun q => some (va_rf q)) ey19) dX7_crop_19 ?_
      refine lv_iconst (v := 0) hx hb dX7_crop_22 (by decide +kernel) ?_
      refine p_iald hx hb hK hP 16 hLy19 hKy19 rfl rfl (in_d (by decide +kernel)) dX7_crop_23 ?_
      refine lv_topi (fun z23 ez23 => ?_)
      have bz23 := oR_26 (i := (0 : Int32)) (k := (0)) (by decide +kernel) (Iv_at hIz12 hLy19 hKy19)
      rw [← ez23] at bz23
      have j71 : ∀ (H : Heap) (lo : List Loc) (ls : Array Slot), va_P (dC, dI) vwCl (Wd cs L K Iz12 Jz12 Q) H → va_S A s.heap H lo → lv_has ls 4 [(0, .ref p0), (1, .int p1)] → W p l e R s m (([.ref p0, .int p1] : List Value).toArray) below meth c H lo 0 0 Qz (F0 m 71 ls []) := by
        intro H lo ls hP hS hl
        refine lv_iconst (v := 0) hx hb dX7_crop_71 (by decide +kernel) ?_
        refine lv_istore_n (lv' := [(2, .int 0), (0, .ref p0), (1, .int p1)]) hx hb dX7_crop_72 rfl hl (by decide) rfl (fun ls hl => ?_)
        have key73 := blocks (fun n => ∀ (v73_2 : Int32) (H : Heap) (lo : List Loc) (ls : Array Slot), (11 - v73_2.toInt).toNat = n → ((0) ≤ v73_2.toInt ∧ v73_2.toInt ≤ 10) → va_P (dC, dI) vwCl (Wd cs L K Iz12 Jz12 Q) H → va_S A s.heap H lo → lv_has ls 4 [(0, .ref p0), (1, .int p1), (2, .int v73_2)] → W p l e R s m (([.ref p0, .int p1] : List Value).toArray) below meth c H lo 0 0 Qz (F0 m 73 ls [])) (by
          intro n ih73
          intro v73_2 H lo ls hmu73 bv73_2 hP hS hl
          refine lv_iload_n hx hb dX7_crop_73 rfl (lv_at hl 2 rfl) ?_
          refine lv_aload_n hx hb dX7_crop_74 rfl (lv_at hl 0 rfl) ?_
          obtain ⟨y75, ey75, hLy75, hKy75⟩ := oQ_7_0 (Sv_at hQ hLp0 hKp0)
          refine p_get (v := .ref y75) hx hb hts inX7 hown hK hP hLp0 hKp0 rfl rfl 0 (by decide) (hts _ pq1115) (congrArg (fun q => some (va_rf q)) ey75) dX7_crop_75 ?_
          refine lv_iconst (v := 1) hx hb dX7_crop_78 (by decide +kernel) ?_
          refine p_iald hx hb hK hP 8 hLy75 hKy75 rfl rfl (in_d (by decide +kernel)) dX7_crop_79 ?_
          refine lv_topi (fun z79 ez79 => ?_)
          have bz79 := rng1 (oR_18 (i := (1 : Int32)) (k := (1)) (by decide +kernel) (Iv_at hIz12 hLy75 hKy75))
          rw [← ez79] at bz79
          refine lv_icmp_ge (tgt := 139) hx hb dX7_crop_80 (by decide) (fun c80 => ?_) (fun c80 => ?_)
          · have t80 := tq_le (k := z79.toInt) (q := v73_2.toInt) c80 rfl rfl
            refine lv_aload_n hx hb dX7_crop_139 rfl (lv_at hl 0 rfl) ?_
            refine sw_v (Z := (fun I1 => Iv L K x0 m0 tx tm I1 ∧ (∀ b, ¬ (K b = 7 ∨ K b = 19 ∨ K b = 30) → I1 b = Iz12 b) ∧ cmT Q Iz12 p0 I1 ∧ (∀ b, K b = 1 ∨ K b = 6 → I1 b = Iz12 b))) (va_runV (As := []) (rest := []) ⟨hx, hb, hml, hown, hts⟩ (s_X7_keepsPast l dC dI cs L K G Q hQ x0 m0 tx tm H.size Iz12 Jz12 hIz12 p0 hLp0 hKp0) (cwV 0 hts (gV pq1324 pq1326 pq26 pq81 pq1327) rfl rfl rfl (by decide +kernel) ⟨(by rw [hR]; exact (Nat.le_of_ble_eq_true rfl)), (by rw [hR]; exact (Nat.le_of_ble_eq_true rfl))⟩) (sP_V hP hD hK hN hLp0 hKp0 rfl rfl) rfl rfl hl.1 rfl (lv_room (Nat.le_of_ble_eq_true rfl)) dX7_crop_140 ⟨(by rw [hR]; exact (Nat.le_of_ble_eq_true rfl)), (by rw [hR]; exact (Nat.le_of_ble_eq_true rfl))⟩) hS hAL hA (fun Iz140 Jz140 H locs hz140 hIz140 hP hS => ?_)
            obtain ⟨hIz140, frc140, cnc140, dnc140⟩ := hIz140
            have dn_Iz140 : (∀ b, K b = 1 ∨ K b = 6 → Iz140 b = I b) := fun b hc => (dnc140 b (by omega)).trans (dn_Iz12 b hc)
            have cn_Iz140 := cmT_tr cn_Iz12 cnc140
            have cr140 : crM (Iz140 ((Q p0 0).getD 0)) (tm.2 - 5000) := by rw [frc140 _ (by have := (nw_of hQ hLp0 hKp0).2; omega), frc12 _ (by have := (nw_of hQ hLp0 hKp0).2; omega)]; exact cr0
            refine lv_iconst (v := 0) hx hb dX7_crop_143 (by decide +kernel) ?_
            refine lv_istore_n (lv' := [(2, .int 0), (0, .ref p0), (1, .int p1)]) hx hb dX7_crop_144 rfl hl (by decide) rfl (fun ls hl => ?_)
            have key145 := blocks (fun n => ∀ (v145_2 : Int32) (I145 : Nat → Nat → Int32) (J145 : Nat → Nat → Int64) (H : Heap) (lo : List Loc) (ls : Array Slot), (11 - v145_2.toInt).toNat = n → ((0) ≤ v145_2.toInt ∧ v145_2.toInt ≤ 10) → Iv L K x0 m0 tx tm I145 → (∀ b, K b = 1 ∨ K b = 6 → I145 b = I b) → cmT Q I p0 I145 → crM (I145 ((Q p0 0).getD 0)) (tm.2 - 5000 + 500 * v145_2.toInt) → va_P (dC, dI) vwCl (Wd cs L K I145 J145 Q) H → va_S A s.heap H lo → lv_has ls 4 [(0, .ref p0), (1, .int p1), (2, .int v145_2)] → W p l e R s m (([.ref p0, .int p1] : List Value).toArray) below meth c H lo 0 0 Qz (F0 m 145 ls [])) (by
              intro n ih145
              intro v145_2 I145 J145 H lo ls hmu145 bv145_2 hI145 dn_I145 cn_I145 hcr hP hS hl
              refine lv_iload_n hx hb dX7_crop_145 rfl (lv_at hl 2 rfl) ?_
              refine lv_aload_n hx hb dX7_crop_146 rfl (lv_at hl 0 rfl) ?_
              refine p_get (v := .ref y75) hx hb hts inX7 hown hK hP hLp0 hKp0 rfl rfl 0 (by decide) (hts _ pq1115) (congrArg (fun q => some (va_rf q)) ey75) dX7_crop_147 ?_
              refine lv_iconst (v := 1) hx hb dX7_crop_150 (by decide +kernel) ?_
              refine p_iald hx hb hK hP 8 hLy75 hKy75 rfl rfl (in_d (by decide +kernel)) dX7_crop_151 ?_
              refine lv_topi (fun z151 ez151 => ?_)
              have bz151 := rng1 (oR_18 (i := (1 : Int32)) (k := (1)) (by decide +kernel) (Iv_at hI145 hLy75 hKy75))
              rw [← ez151] at bz151
              refine lv_icmp_ge (tgt := 187) hx hb dX7_crop_152 (by decide) (fun c152 => ?_) (fun c152 => ?_)
              · have t152 := tq_le (k := z151.toInt) (q := v145_2.toInt) c152 rfl rfl
                refine lv_aload_n hx hb dX7_crop_187 rfl (lv_at hl 0 rfl) ?_
                refine sw_v (Z := (fun I1 => Iv L K x0 m0 tx tm I1 ∧ I1 = I145)) (va_runV (As := []) (rest := []) ⟨hx, hb, hml, hown, hts⟩ (s_X7_clearsMade l dC dI cs L K G Q hQ x0 m0 tx tm H.size I145 J145 hI145 p0 hLp0 hKp0) (cwV 0 hts (gV pq1391 pq1393 pq36 pq81 pq1394) rfl rfl rfl (by decide +kernel) ⟨(by rw [hR]; exact (Nat.le_of_ble_eq_true rfl)), (by rw [hR]; exact (Nat.le_of_ble_eq_true rfl))⟩) (sP_V hP hD hK hN hLp0 hKp0 rfl rfl) rfl rfl hl.1 rfl (lv_room (Nat.le_of_ble_eq_true rfl)) dX7_crop_188 ⟨(by rw [hR]; exact (Nat.le_of_ble_eq_true rfl)), (by rw [hR]; exact (Nat.le_of_ble_eq_true rfl))⟩) hS hAL hA (fun Iz188 Jz188 H locs hz188 hIz188 hP hS => ?_)
                obtain ⟨hIz188x, rfl⟩ : Iv L K x0 m0 tx tm Iz188 ∧ I145 = Iz188 := ⟨hIz188.1, hIz188.2.symm⟩
                refine lv_aload_n hx hb dX7_crop_191 rfl (lv_at hl 0 rfl) ?_
                refine p_get (v := .ref y19) hx hb hts inX7 hown hK hP hLp0 hKp0 rfl rfl 20 (by decide) (hts _ pq1135) (congrArg (fun q => some (va_rf q)) ey19) dX7_crop_192 ?_
                refine lv_iconst (v := 1) hx hb dX7_crop_195 (by decide +kernel) ?_
                refine p_iald hx hb hK hP 16 hLy19 hKy19 rfl rfl (in_d (by decide +kernel)) dX7_crop_196 ?_
                refine lv_topi (fun z196 ez196 => ?_)
                have bz196 := oR_26 (i := (1 : Int32)) (k := (1)) (by decide +kernel) (Iv_at hI145 hLy19 hKy19)
                rw [← ez196] at bz196
                refine lv_istore_n (lv' := [(2, .int z196), (0, .ref p0), (1, .int p1)]) hx hb dX7_crop_197 rfl hl (by decide) rfl (fun ls hl => ?_)
                have key198 := blocks (fun n => ∀ (v198_2 : Int32) (J198 : Nat → Nat → Int64) (H : Heap) (lo : List Loc) (ls : Array Slot), (41 - v198_2.toInt).toNat = n → ((0) ≤ v198_2.toInt ∧ v198_2.toInt ≤ 40) → z196.toInt ≤ v198_2.toInt → va_P (dC, dI) vwCl (Wd cs L K I145 J198 Q) H → va_S A s.heap H lo → lv_has ls 4 [(0, .ref p0), (1, .int p1), (2, .int v198_2)] → W p l e R s m (([.ref p0, .int p1] : List Value).toArray) below meth c H lo 0 0 Qz (F0 m 198 ls [])) (by
                  intro n ih198
                  intro v198_2 J198 H lo ls hmu198 bv198_2 hy hP hS hl
                  refine lv_iload_n hx hb dX7_crop_198 rfl (lv_at hl 2 rfl) ?_
                  refine lv_aload_n hx hb dX7_crop_199 rfl (lv_at hl 0 rfl) ?_
                  refine p_get (v := .ref y19) hx hb hts inX7 hown hK hP hLp0 hKp0 rfl rfl 20 (by decide) (hts _ pq1135) (congrArg (fun q => some (va_rf q)) ey19) dX7_crop_200 ?_
                  refine lv_iconst (v := 3) hx hb dX7_crop_203 (by decide +kernel) ?_
                  refine p_iald hx hb hK hP 16 hLy19 hKy19 rfl rfl (in_d (by decide +kernel)) dX7_crop_204 ?_
                  refine lv_topi (fun z204 ez204 => ?_)
                  have bz204 := oR_26 (i := (3 : Int32)) (k := (3)) (by decide +kernel) (Iv_at hI145 hLy19 hKy19)
                  rw [← ez204] at bz204
                  refine lv_icmp_gt (tgt := 271) hx hb dX7_crop_205 (by decide) (fun c205 => ?_) (fun c205 => ?_)
                  · have t205 := tq_lt (k := z204.toInt) (q := v198_2.toInt) c205 rfl rfl
                    refine lv_aload_n hx hb dX7_crop_271 rfl (lv_at hl 0 rfl) ?_
                    refine lv_iload_n hx hb dX7_crop_272 rfl (lv_at hl 1 rfl) ?_
                    refine sw_v (Z := (fun I1 => Iv L K x0 m0 tx tm I1 ∧ I1 = I145)) (va_runV (As := [.int p1]) (rest := []) ⟨hx, hb, hml, hown, hts⟩ (s_X7_takesMade l dC dI cs L K G Q hQ x0 m0 tx tm H.size I145 J198 hI145 p0 hLp0 hKp0 p1 ⟨by omega, by omega⟩) (cwV 1 hts (gV pq1399 pq1401 pq38 pq81 pq1402) rfl rfl rfl (by decide +kernel) ⟨(by rw [hR]; exact (Nat.le_of_ble_eq_true rfl)), (by rw [hR]; exact (Nat.le_of_ble_eq_true rfl))⟩) (sP_V hP hD hK hN hLp0 hKp0 rfl rfl) rfl rfl hl.1 rfl (lv_room (Nat.le_of_ble_eq_true rfl)) dX7_crop_273 ⟨(by rw [hR]; exact (Nat.le_of_ble_eq_true rfl)), (by rw [hR]; exact (Nat.le_of_ble_eq_true rfl))⟩) hS hAL hA (fun Iz273 Jz273 H locs hz273 hIz273 hP hS => ?_)
                    obtain ⟨hIz273x, rfl⟩ : Iv L K x0 m0 tx tm Iz273 ∧ I145 = Iz273 := ⟨hIz273.1, hIz273.2.symm⟩
                    refine lv_aload_n hx hb dX7_crop_276 rfl (lv_at hl 0 rfl) ?_
                    refine p_get (v := .ref y75) hx hb hts inX7 hown hK hP hLp0 hKp0 rfl rfl 0 (by decide) (hts _ pq1115) (congrArg (fun q => some (va_rf q)) ey75) dX7_crop_277 ?_
                    refine lv_iconst (v := 3) hx hb dX7_crop_280 (by decide +kernel) ?_
                    refine lv_iload_n hx hb dX7_crop_281 rfl (lv_at hl 1 rfl) ?_
                    refine lv_iadd hx hb dX7_crop_282 ?_
                    refine lv_topi (fun z282 ez282 => ?_)
                    have bz282 := tq_add (k := (3)) (q := p1.toInt) ez282 (by decide +kernel) rfl (by omega) (by omega)
                    refine lv_aload_n hx hb dX7_crop_283 rfl (lv_at hl 0 rfl) ?_
                    refine p_get (v := .ref y19) hx hb hts inX7 hown hK hP hLp0 hKp0 rfl rfl 20 (by decide) (hts _ pq1135) (congrArg (fun q => some (va_rf q)) ey19) dX7_crop_284 ?_
                    refine lv_iconst (v := 2) hx hb dX7_crop_287 (by decide +kernel) ?_
                    refine p_iald hx hb hK hP 16 hLy19 hKy19 rfl rfl (in_d (by decide +kernel)) dX7_crop_288 ?_
                    refine lv_topi (fun z288 ez288 => ?_)
                    have bz288 := oR_26 (i := (2 : Int32)) (k := (2)) (by decide +kernel) (Iv_at hI145 hLy19 hKy19)
                    rw [← ez288] at bz288
                    refine lv_aload_n hx hb dX7_crop_289 rfl (lv_at hl 0 rfl) ?_
                    refine p_get (v := .ref y19) hx hb hts inX7 hown hK hP hLp0 hKp0 rfl rfl 20 (by decide) (hts _ pq1135) (congrArg (fun q => some (va_rf q)) ey19) dX7_crop_290 ?_
                    refine lv_iconst (v := 0) hx hb dX7_crop_293 (by decide +kernel) ?_
                    refine p_iald hx hb hK hP 16 hLy19 hKy19 rfl rfl (in_d (by decide +kernel)) dX7_crop_294 ?_
                    refine lv_topi (fun z294 ez294 => ?_)
                    have bz294 := oR_26 (i := (0 : Int32)) (k := (0)) (by decide +kernel) (Iv_at hI145 hLy19 hKy19)
                    rw [← ez294] at bz294
                    refine lv_isub hx hb dX7_crop_295 ?_
                    refine lv_topi (fun z295 ez295 => ?_)
                    have bz295 := tq_sub (k := z288.toInt) (q := z294.toInt) ez295 rfl rfl (by omega) (by omega)
                    refine lv_iconst (v := 1) hx hb dX7_crop_296 (by decide +kernel) ?_
                    refine lv_iadd hx hb dX7_crop_297 ?_
                    refine lv_topi (fun z297 ez297 => ?_)
                    have bz297 := tq_add (k := z295.toInt) (q := (1)) ez297 rfl (by decide +kernel) (by omega) (by omega)
                    refine p_iast hx hb hK hP hD hS 8 hLy75 hKy75 rfl (fun _ => rfl) rfl (in_of (by omega) (by omega)) dX7_crop_298 (fun H locs hP hS => ?_)
                    obtain ⟨Iz298, hP, hIz298, qIz298⟩ : ∃ Iz298, va_P (dC, dI) vwCl (Wd cs L K Iz298 Jz273 Q) H ∧ Iv L K x0 m0 tx tm Iz298 ∧ Iz298 = va_up I145 y75 (upd (I145 y75) z282.toNatClampNeg z297) := ⟨_, hP, Iv_put hI145 hKy75 (oU_18 (i := z282) (k := z282.toInt) rfl (Iv_at hI145 hLy75 hKy75) (by unfold rng; omega)) (Or.inl (by decide)) (Or.inl (by decide)), rfl⟩
                    have dn_Iz298 : (∀ b, K b = 1 ∨ K b = 6 → Iz298 b = I b) := fun b hc => (congrFun qIz298 b).trans ((va_up_ne _ _ (fun z => by have q := hKy75; rw [← z] at q; omega)).trans (dn_I145 b hc))
                    have cn_Iz298 := cmT_put hQ hLp0 hKp0 cn_I145 qIz298 hKy75 ⟨Or.inr (by show ¬ z282.toInt.toNat = 1; omega), Or.inl (by decide), by decide, by decide, by decide⟩
                    refine lv_aload_n hx hb dX7_crop_299 rfl (lv_at hl 0 rfl) ?_
                    refine p_get (v := .ref y75) hx hb hts inX7 hown hK hP hLp0 hKp0 rfl rfl 0 (by decide) (hts _ pq1115) (congrArg (fun q => some (va_rf q)) ey75) dX7_crop_300 ?_
                    refine lv_bipush (v := 11) hx hb dX7_crop_303 (by decide +kernel) ?_
                    refine lv_iload_n hx hb dX7_crop_305 rfl (lv_at hl 1 rfl) ?_
                    refine lv_iadd hx hb dX7_crop_306 ?_
                    refine lv_topi (fun z306 ez306 => ?_)
                    have bz306 := tq_add (k := (11)) (q := p1.toInt) ez306 (by decide +kernel) rfl (by omega) (by omega)
                    refine lv_aload_n hx hb dX7_crop_307 rfl (lv_at hl 0 rfl) ?_
                    refine p_get (v := .ref y19) hx hb hts inX7 hown hK hP hLp0 hKp0 rfl rfl 20 (by decide) (hts _ pq1135) (congrArg (fun q => some (va_rf q)) ey19) dX7_crop_308 ?_
                    refine lv_iconst (v := 3) hx hb dX7_crop_311 (by decide +kernel) ?_
                    refine p_iald hx hb hK hP 16 hLy19 hKy19 rfl rfl (in_d (by decide +kernel)) dX7_crop_312 ?_
                    refine lv_topi (fun z312 ez312 => ?_)
                    have bz312 := oR_26 (i := (3 : Int32)) (k := (3)) (by decide +kernel) (Iv_at hIz298 hLy19 hKy19)
                    rw [← ez312] at bz312
                    refine lv_aload_n hx hb dX7_crop_313 rfl (lv_at hl 0 rfl) ?_
                    refine p_get (v := .ref y19) hx hb hts inX7 hown hK hP hLp0 hKp0 rfl rfl 20 (by decide) (hts _ pq1135) (congrArg (fun q => some (va_rf q)) ey19) dX7_crop_314 ?_
                    refine lv_iconst (v := 1) hx hb dX7_crop_317 (by decide +kernel) ?_
                    refine p_iald hx hb hK hP 16 hLy19 hKy19 rfl rfl (in_d (by decide +kernel)) dX7_crop_318 ?_
                    refine lv_topi (fun z318 ez318 => ?_)
                    have bz318 := oR_26 (i := (1 : Int32)) (k := (1)) (by decide +kernel) (Iv_at hIz298 hLy19 hKy19)
                    rw [← ez318] at bz318
                    refine lv_isub hx hb dX7_crop_319 ?_
                    refine lv_topi (fun z319 ez319 => ?_)
                    have bz319 := tq_sub (k := z312.toInt) (q := z318.toInt) ez319 rfl rfl (by omega) (by omega)
                    refine lv_iconst (v := 1) hx hb dX7_crop_320 (by decide +kernel) ?_
                    refine lv_iadd hx hb dX7_crop_321 ?_
                    refine lv_topi (fun z321 ez321 => ?_)
                    have bz321 := tq_add (k := z319.toInt) (q := (1)) ez321 rfl (by decide +kernel) (by omega) (by omega)
                    refine p_iast hx hb hK hP hD hS 8 hLy75 hKy75 rfl (fun _ => rfl) rfl (in_of (by omega) (by omega)) dX7_crop_322 (fun H locs hP hS => ?_)
                    obtain ⟨Iz322, hP, hIz322, qIz322⟩ : ∃ Iz322, va_P (dC, dI) vwCl (Wd cs L K Iz322 Jz273 Q) H ∧ Iv L K x0 m0 tx tm Iz322 ∧ Iz322 = va_up Iz298 y75 (upd (Iz298 y75) z306.toNatClampNeg z321) := ⟨_, hP, Iv_put hIz298 hKy75 (oU_18 (i := z306) (k := z306.toInt) rfl (Iv_at hIz298 hLy75 hKy75) (by unfold rng; omega)) (Or.inl (by decide)) (Or.inl (by decide)), rfl⟩
                    have dn_Iz322 : (∀ b, K b = 1 ∨ K b = 6 → Iz322 b = I b) := fun b hc => (congrFun qIz322 b).trans ((va_up_ne _ _ (fun z => by have q := hKy75; rw [← z] at q; omega)).trans (dn_Iz298 b hc))
                    have cn_Iz322 := cmT_put hQ hLp0 hKp0 cn_Iz298 qIz322 hKy75 ⟨Or.inr (by show ¬ z306.toInt.toNat = 1; omega), Or.inl (by decide), by decide, by decide, by decide⟩
                    refine lv_aload_n hx hb dX7_crop_323 rfl (lv_at hl 0 rfl) ?_
                    refine lv_iload_n hx hb dX7_crop_324 rfl (lv_at hl 1 rfl) ?_
                    refine ro_i (va_runV (As := [.int p1]) (rest := []) ⟨hx, hb, hml, hown, hts⟩ (s_X7_wide l dC dI cs L K G Q hQ x0 m0 tx tm H.size Iz322 Jz273 hIz322 p0 hLp0 hKp0 p1 ⟨by omega, by omega⟩) (cwV 1 hts (gV pq1368 pq1370 pq32 pq81 pq1371) rfl rfl rfl (by decide +kernel) ⟨(by rw [hR]; exact (Nat.le_of_ble_eq_true rfl)), (by rw [hR]; exact (Nat.le_of_ble_eq_true rfl))⟩) (sP_V hP hD hK hN hLp0 hKp0 rfl rfl) rfl rfl hl.1 rfl (lv_room (Nat.le_of_ble_eq_true rfl)) dX7_crop_325 ⟨(by rw [hR]; exact (Nat.le_of_ble_eq_true rfl)), (by rw [hR]; exact (Nat.le_of_ble_eq_true rfl))⟩) hS hP (fun z325 H locs hz325 hP hS => ?_)
                    obtain ⟨bz325, fez325⟩ := hz325
                    refine lv_aload_n hx hb dX7_crop_328 rfl (lv_at hl 0 rfl) ?_
                    refine lv_iload_n hx hb dX7_crop_329 rfl (lv_at hl 1 rfl) ?_
                    refine ro_i (va_runV (As := [.int p1]) (rest := [.int z325]) ⟨hx, hb, hml, hown, hts⟩ (s_X7_high l dC dI cs L K G Q hQ x0 m0 tx tm H.size Iz322 Jz273 hIz322 p0 hLp0 hKp0 p1 ⟨by omega, by omega⟩) (cwV 1 hts (gV pq1372 pq1374 pq33 pq81 pq1375) rfl rfl rfl (by decide +kernel) ⟨(by rw [hR]; exact (Nat.le_of_ble_eq_true rfl)), (by rw [hR]; exact (Nat.le_of_ble_eq_true rfl))⟩) (sP_V hP hD hK hN hLp0 hKp0 rfl rfl) rfl rfl hl.1 rfl (lv_room (Nat.le_of_ble_eq_true rfl)) dX7_crop_330 ⟨(by rw [hR]; exact (Nat.le_of_ble_eq_true rfl)), (by rw [hR]; exact (Nat.le_of_ble_eq_true rfl))⟩) hS hP (fun z330 H locs hz330 hP hS => ?_)
                    obtain ⟨bz330, fez330⟩ := hz330
                    refine lv_imul hx hb dX7_crop_333 ?_
                    refine lv_topi (fun z333 ez333 => ?_)
                    subst hR; subst hQz
                    exact W.iret (v := z333) hx hb hr (fun t ht hW => ⟨⟨z333, (), rfl, trivial, ⟨Iz322, Jz273, ⟨hIz322, cn_Iz322, dn_Iz322⟩, by rw [ht]; exact hP⟩⟩, hS.F ht⟩) hS.2.2 dX7_crop_334
                  · have t205 := tq_nlt (k := z204.toInt) (q := v198_2.toInt) c205 rfl rfl
                    refine lv_aload_n hx hb dX7_crop_208 rfl (lv_at hl 0 rfl) ?_
                    refine p_get (v := .ref y19) hx hb hts inX7 hown hK hP hLp0 hKp0 rfl rfl 20 (by decide) (hts _ pq1135) (congrArg (fun q => some (va_rf q)) ey19) dX7_crop_209 ?_
                    refine lv_iconst (v := 0) hx hb dX7_crop_212 (by decide +kernel) ?_
                    refine p_iald hx hb hK hP 16 hLy19 hKy19 rfl rfl (in_d (by decide +kernel)) dX7_crop_213 ?_
                    refine lv_topi (fun z213 ez213 => ?_)
                    have bz213 := oR_26 (i := (0 : Int32)) (k := (0)) (by decide +kernel) (Iv_at hI145 hLy19 hKy19)
                    rw [← ez213] at bz213
                    refine lv_istore_n (lv' := [(3, .int z213), (0, .ref p0), (1, .int p1), (2, .int v198_2)]) hx hb dX7_crop_214 rfl hl (by decide) rfl (fun ls hl => ?_)
                    have key215 := blocks (fun n => ∀ (v215_3 : Int32) (J215 : Nat → Nat → Int64) (H : Heap) (lo : List Loc) (ls : Array Slot), (101 - v215_3.toInt).toNat = n → ((0) ≤ v215_3.toInt ∧ v215_3.toInt ≤ 100) → z213.toInt ≤ v215_3.toInt → va_P (dC, dI) vwCl (Wd cs L K I145 J215 Q) H → va_S A s.heap H lo → lv_has ls 4 [(0, .ref p0), (1, .int p1), (2, .int v198_2), (3, .int v215_3)] → W p l e R s m (([.ref p0, .int p1] : List Value).toArray) below meth c H lo 0 0 Qz (F0 m 215 ls [])) (by
                      intro n ih215
                      intro v215_3 J215 H lo ls hmu215 bv215_3 hx0 hP hS hl
                      refine lv_iload_n hx hb dX7_crop_215 rfl (lv_at hl 3 rfl) ?_
                      refine lv_aload_n hx hb dX7_crop_216 rfl (lv_at hl 0 rfl) ?_
                      refine p_get (v := .ref y19) hx hb hts inX7 hown hK hP hLp0 hKp0 rfl rfl 20 (by decide) (hts _ pq1135) (congrArg (fun q => some (va_rf q)) ey19) dX7_crop_217 ?_
                      refine lv_iconst (v := 2) hx hb dX7_crop_220 (by decide +kernel) ?_
                      refine p_iald hx hb hK hP 16 hLy19 hKy19 rfl rfl (in_d (by decide +kernel)) dX7_crop_221 ?_
                      refine lv_topi (fun z221 ez221 => ?_)
                      have bz221 := oR_26 (i := (2 : Int32)) (k := (2)) (by decide +kernel) (Iv_at hI145 hLy19 hKy19)
                      rw [← ez221] at bz221
                      refine lv_icmp_gt (tgt := 265) hx hb dX7_crop_222 (by decide) (fun c222 => ?_) (fun c222 => ?_)
                      · have t222 := tq_lt (k := z221.toInt) (q := v215_3.toInt) c222 rfl rfl
                        obtain ⟨z265, ez265⟩ : ∃ y : Int32, y = v198_2 + 1 := ⟨_, rfl⟩
                        refine lv_iinc (v := z265) (lv' := [(2, .int z265), (0, .ref p0), (1, .int p1), (3, .int v215_3)]) hx hb dX7_crop_265 hl (k := 2) rfl (by rw [ez265]; rfl) (by decide) rfl (fun ls hl => ?_)
                        have bz265 := tq_add (k := v198_2.toInt) (q := 1) ez265 rfl (by decide +kernel) (by omega) (by omega)
                        refine lv_goto (tgt := 198) hx hb dX7_crop_268 (by decide) ?_
                        exact ih198 _ (by omega) z265 J215 _ _ _ rfl ⟨by omega, by omega⟩ (by omega) hP hS (lv_sub hl [1, 2, 0] rfl)
                      · have t222 := tq_nlt (k := z221.toInt) (q := v215_3.toInt) c222 rfl rfl
                        refine lv_aload_n hx hb dX7_crop_225 rfl (lv_at hl 0 rfl) ?_
                        refine lv_iload_n hx hb dX7_crop_226 rfl (lv_at hl 1 rfl) ?_
                        refine lv_iload_n hx hb dX7_crop_227 rfl (lv_at hl 3 rfl) ?_
                        refine lv_iload_n hx hb dX7_crop_228 rfl (lv_at hl 2 rfl) ?_
                        refine ro_i (va_runV (As := [.int p1, .int v215_3, .int v198_2]) (rest := []) ⟨hx, hb, hml, hown, hts⟩ (s_X7_has l dC dI cs L K G Q hQ x0 m0 tx tm H.size I145 J215 hI145 p0 hLp0 hKp0 p1 ⟨by omega, by omega⟩ v215_3 v198_2) (cwV 3 hts (gV pq1376 pq1378 pq34 pq81 pq1379) rfl rfl rfl (by decide +kernel) ⟨(by rw [hR]; exact (Nat.le_of_ble_eq_true rfl)), (by rw [hR]; exact (Nat.le_of_ble_eq_true rfl))⟩) (sP_V hP hD hK hN hLp0 hKp0 rfl rfl) rfl rfl hl.1 rfl (lv_room (Nat.le_of_ble_eq_true rfl)) dX7_crop_229 ⟨(by rw [hR]; exact (Nat.le_of_ble_eq_true rfl)), (by rw [hR]; exact (Nat.le_of_ble_eq_true rfl))⟩) hS hP (fun z229 H locs hz229 hP hS => ?_)
                        obtain ⟨bz229, imz229⟩ := hz229
                        have j259 : ∀ (J259 : Nat → Nat → Int64) (H : Heap) (lo : List Loc) (ls : Array Slot), va_P (dC, dI) vwCl (Wd cs L K I145 J259 Q) H → va_S A s.heap H lo → lv_has ls 4 [(0, .ref p0), (1, .int p1), (2, .int v198_2), (3, .int v215_3)] → W p l e R s m (([.ref p0, .int p1] : List Value).toArray) below meth c H lo 0 0 Qz (F0 m 259 ls []) := by
                          intro J259 H lo ls hP hS hl
                          obtain ⟨z259, ez259⟩ : ∃ y : Int32, y = v215_3 + 1 := ⟨_, rfl⟩
                          refine lv_iinc (v := z259) (lv' := [(3, .int z259), (0, .ref p0), (1, .int p1), (2, .int v198_2)]) hx hb dX7_crop_259 hl (k := 3) rfl (by rw [ez259]; rfl) (by decide) rfl (fun ls hl => ?_)
                          have bz259 := tq_add (k := v215_3.toInt) (q := 1) ez259 rfl (by decide +kernel) (by omega) (by omega)
                          refine lv_goto (tgt := 215) hx hb dX7_crop_262 (by decide) ?_
                          exact ih215 _ (by omega) z259 J259 _ _ _ rfl ⟨by omega, by omega⟩ (by omega) hP hS (lv_sub hl [1, 2, 3, 0] rfl)
                        refine lv_if_eq (tgt := 259) hx hb dX7_crop_232 (by decide) (fun c232 => ?_) (fun c232 => ?_)
                        · have t232 := tq_eq (k := z229.toInt) (q := (0)) c232 rfl (by decide +kernel)
                          exact j259 J215 _ _ _ hP hS (lv_sub hl [0, 1, 2, 3] rfl)
                        · have t232 := tq_ne (k := z229.toInt) (q := (0)) c232 rfl (by decide +kernel)
                          have i232 := imz229 t232
                          refine lv_aload_n hx hb dX7_crop_235 rfl (lv_at hl 0 rfl) ?_
                          obtain ⟨y236, ey236, hLy236, hKy236⟩ := oQ_7_19 (Sv_at hQ hLp0 hKp0)
                          refine p_get (v := .ref y236) hx hb hts inX7 hown hK hP hLp0 hKp0 rfl rfl 19 (by decide) (hts _ pq1134) (congrArg (fun q => some (va_rf q)) ey236) dX7_crop_236 ?_
                          refine lv_iconst (v := 0) hx hb dX7_crop_239 (by decide +kernel) ?_
                          refine lv_iload_n hx hb dX7_crop_240 rfl (lv_at hl 3 rfl) ?_
                          refine lv_aload_n hx hb dX7_crop_241 rfl (lv_at hl 0 rfl) ?_
                          refine p_get (v := .ref y19) hx hb hts inX7 hown hK hP hLp0 hKp0 rfl rfl 20 (by decide) (hts _ pq1135) (congrArg (fun q => some (va_rf q)) ey19) dX7_crop_242 ?_
                          refine lv_iconst (v := 0) hx hb dX7_crop_245 (by decide +kernel) ?_
                          refine p_iald hx hb hK hP 16 hLy19 hKy19 rfl rfl (in_d (by decide +kernel)) dX7_crop_246 ?_
                          refine lv_topi (fun z246 ez246 => ?_)
                          obtain rfl : z213 = z246 := ez213.trans ez246.symm
                          refine lv_isub hx hb dX7_crop_247 ?_
                          refine lv_topi (fun z247 ez247 => ?_)
                          have bz247 := tq_sub (k := v215_3.toInt) (q := z213.toInt) ez247 rfl rfl (by omega) (by omega)
                          refine lv_iload_n hx hb dX7_crop_248 rfl (lv_at hl 2 rfl) ?_
                          refine lv_aload_n hx hb dX7_crop_249 rfl (lv_at hl 0 rfl) ?_
                          refine p_get (v := .ref y19) hx hb hts inX7 hown hK hP hLp0 hKp0 rfl rfl 20 (by decide) (hts _ pq1135) (congrArg (fun q => some (va_rf q)) ey19) dX7_crop_250 ?_
                          refine lv_iconst (v := 1) hx hb dX7_crop_253 (by decide +kernel) ?_
                          refine p_iald hx hb hK hP 16 hLy19 hKy19 rfl rfl (in_d (by decide +kernel)) dX7_crop_254 ?_
                          refine lv_topi (fun z254 ez254 => ?_)
                          obtain rfl : z196 = z254 := ez196.trans ez254.symm
                          refine lv_isub hx hb dX7_crop_255 ?_
                          refine lv_topi (fun z255 ez255 => ?_)
                          have bz255 := tq_sub (k := v198_2.toInt) (q := z196.toInt) ez255 rfl rfl (by omega) (by omega)
                          refine sw_v (Z := (fun I1 => Iv L K x0 m0 tx tm I1 ∧ I1 = I145)) (va_runS (As := [.ref y236, .int 0, .int z247, .int z255]) (rest := []) ⟨hx, hb, hml, hown, hts⟩ (s_X7_setsDotM l dC dI cs L K G Q hQ x0 m0 tx tm H.size I145 J215 hI145 y236 hLy236 hKy236 0 ⟨by decide +kernel, by decide +kernel⟩ z247 ⟨by omega, by omega⟩ z255 ⟨by omega, by omega⟩) (va_cwS 4 hts (gS pq1254 pq1255 pq81 pq1256) rfl rfl rfl (by decide +kernel) ⟨(by rw [hR]; exact (Nat.le_of_ble_eq_true rfl)), (by rw [hR]; exact (Nat.le_of_ble_eq_true rfl))⟩) (sP_S hP hD hK hN) rfl rfl hl.1 rfl (lv_room (Nat.le_of_ble_eq_true rfl)) dX7_crop_256 ⟨(by rw [hR]; exact (Nat.le_of_ble_eq_true rfl)), (by rw [hR]; exact (Nat.le_of_ble_eq_true rfl))⟩) hS hAL hA (fun Iz256 Jz256 H locs hz256 hIz256 hP hS => ?_)
                          obtain ⟨hIz256x, rfl⟩ : Iv L K x0 m0 tx tm Iz256 ∧ I145 = Iz256 := ⟨hIz256.1, hIz256.2.symm⟩
                          exact j259 Jz256 _ _ _ hP hS (lv_sub hl [0, 1, 2, 3] rfl))
                    exact key215 _ z213 J198 _ _ _ rfl ⟨by omega, by omega⟩ (by omega) hP hS (lv_sub hl [1, 2, 3, 0] rfl))
                exact key198 _ z196 Jz188 _ _ _ rfl ⟨by omega, by omega⟩ (by omega) hP hS (lv_sub hl [1, 2, 0] rfl)
              · have t152 := tq_nle (k := z151.toInt) (q := v145_2.toInt) c152 rfl rfl
                refine lv_aload_n hx hb dX7_crop_155 rfl (lv_at hl 0 rfl) ?_
                refine lv_iload_n hx hb dX7_crop_156 rfl (lv_at hl 2 rfl) ?_
                refine ro_i (va_runV (As := [.int v145_2]) (rest := []) ⟨hx, hb, hml, hown, hts⟩ (s_X7_maskOf l dC dI cs L K G Q hQ x0 m0 tx tm H.size I145 J145 hI145 p0 hLp0 hKp0 v145_2 ⟨by omega, by omega⟩) (cwV 1 hts (gV pq1431 pq1433 pq41 pq81 pq1434) rfl rfl rfl (by decide +kernel) ⟨(by rw [hR]; exact (Nat.le_of_ble_eq_true rfl)), (by rw [hR]; exact (Nat.le_of_ble_eq_true rfl))⟩) (sP_V hP hD hK hN hLp0 hKp0 rfl rfl) rfl rfl hl.1 rfl (lv_room (Nat.le_of_ble_eq_true rfl)) dX7_crop_157 ⟨(by rw [hR]; exact (Nat.le_of_ble_eq_true rfl)), (by rw [hR]; exact (Nat.le_of_ble_eq_true rfl))⟩) hS hP (fun z157 H locs hz157 hP hS => ?_)
                have bz157 := hz157
                refine lv_iload_n hx hb dX7_crop_160 rfl (lv_at hl 1 rfl) ?_
                have j181 : ∀ (I181 : Nat → Nat → Int32) (J181 : Nat → Nat → Int64) (H : Heap) (lo : List Loc) (ls : Array Slot), Iv L K x0 m0 tx tm I181 → (∀ b, K b = 1 ∨ K b = 6 → I181 b = I b) → cmT Q I p0 I181 → crM (I181 ((Q p0 0).getD 0)) (tm.2 - 5000 + 500 * (v145_2.toInt + 1)) → va_P (dC, dI) vwCl (Wd cs L K I181 J181 Q) H → va_S A s.heap H lo → lv_has ls 4 [(0, .ref p0), (1, .int p1), (2, .int v145_2)] → W p l e R s m (([.ref p0, .int p1] : List Value).toArray) below meth c H lo 0 0 Qz (F0 m 181 ls []) := by
                  intro I181 J181 H lo ls hI181 dn_I181 cn_I181 h181 hP hS hl
                  obtain ⟨z181, ez181⟩ : ∃ y : Int32, y = v145_2 + 1 := ⟨_, rfl⟩
                  refine lv_iinc (v := z181) (lv' := [(2, .int z181), (0, .ref p0), (1, .int p1)]) hx hb dX7_crop_181 hl (k := 2) rfl (by rw [ez181]; rfl) (by decide) rfl (fun ls hl => ?_)
                  have bz181 := tq_add (k := v145_2.toInt) (q := 1) ez181 rfl (by decide +kernel) (by omega) (by omega)
                  refine lv_goto (tgt := 145) hx hb dX7_crop_184 (by decide) ?_
                  exact ih145 _ (by omega) z181 I181 J181 _ _ _ rfl ⟨by omega, by omega⟩ hI181 dn_I181 cn_I181 (by rw [bz181]; exact h181) hP hS (lv_sub hl [1, 2, 0] rfl)
                refine lv_icmp_ne (tgt := 181) hx hb dX7_crop_161 (by decide) (fun c161 => ?_) (fun c161 => ?_)
                · have t161 := tq_ne (k := z157.toInt) (q := p1.toInt) c161 rfl rfl
                  exact j181 I145 J145 _ _ _ hI145 dn_I145 cn_I145 (crM_mono hcr (by omega)) hP hS (lv_sub hl [0, 1, 2] rfl)
                · have t161 := tq_eq (k := z157.toInt) (q := p1.toInt) c161 rfl rfl
                  refine lv_aload_n hx hb dX7_crop_164 rfl (lv_at hl 0 rfl) ?_
                  refine lv_iload_n hx hb dX7_crop_165 rfl (lv_at hl 2 rfl) ?_
                  refine lv_aload_n hx hb dX7_crop_166 rfl (lv_at hl 0 rfl) ?_
                  refine lv_iload_n hx hb dX7_crop_167 rfl (lv_at hl 1 rfl) ?_
                  refine lv_iload_n hx hb dX7_crop_168 rfl (lv_at hl 2 rfl) ?_
                  refine ro_i (va_runV (As := [.int p1, .int v145_2]) (rest := [.int v145_2, .ref p0]) ⟨hx, hb, hml, hown, hts⟩ (s_X7_leftOf l dC dI cs L K G Q hQ x0 m0 tx tm H.size I145 J145 hI145 p0 hLp0 hKp0 p1 ⟨by omega, by omega⟩ v145_2 ⟨by omega, by omega⟩) (cwV 2 hts (gV pq1510 pq1512 pq54 pq81 pq1513) rfl rfl rfl (by decide +kernel) ⟨(by rw [hR]; exact (Nat.le_of_ble_eq_true rfl)), (by rw [hR]; exact (Nat.le_of_ble_eq_true rfl))⟩) (sP_V hP hD hK hN hLp0 hKp0 rfl rfl) rfl rfl hl.1 rfl (lv_room (Nat.le_of_ble_eq_true rfl)) dX7_crop_169 ⟨(by rw [hR]; exact (Nat.le_of_ble_eq_true rfl)), (by rw [hR]; exact (Nat.le_of_ble_eq_true rfl))⟩) hS hP (fun z169 H locs hz169 hP hS => ?_)
                  have bz169 := hz169
                  refine lv_aload_n hx hb dX7_crop_172 rfl (lv_at hl 0 rfl) ?_
                  refine lv_iload_n hx hb dX7_crop_173 rfl (lv_at hl 1 rfl) ?_
                  refine lv_iload_n hx hb dX7_crop_174 rfl (lv_at hl 2 rfl) ?_
                  refine ro_i (va_runV (As := [.int p1, .int v145_2]) (rest := [.int z169, .int v145_2, .ref p0]) ⟨hx, hb, hml, hown, hts⟩ (s_X7_aboveOf l dC dI cs L K G Q hQ x0 m0 tx tm H.size I145 J145 hI145 p0 hLp0 hKp0 p1 ⟨by omega, by omega⟩ v145_2 ⟨by omega, by omega⟩) (cwV 2 hts (gV pq1514 pq1516 pq55 pq81 pq1517) rfl rfl rfl (by decide +kernel) ⟨(by rw [hR]; exact (Nat.le_of_ble_eq_true rfl)), (by rw [hR]; exact (Nat.le_of_ble_eq_true rfl))⟩) (sP_V hP hD hK hN hLp0 hKp0 rfl rfl) rfl rfl hl.1 rfl (lv_room (Nat.le_of_ble_eq_true rfl)) dX7_crop_175 ⟨(by rw [hR]; exact (Nat.le_of_ble_eq_true rfl)), (by rw [hR]; exact (Nat.le_of_ble_eq_true rfl))⟩) hS hP (fun z175 H locs hz175 hP hS => ?_)
                  have bz175 := hz175
                  refine sw_v (Z := (fun I1 => Iv L K x0 m0 tx tm I1 ∧ (∀ b, ¬ (K b = 18) → I1 b = I145 b) ∧ I1 ((Q p0 0).getD 0) = gU (I145 ((Q p0 0).getD 0)) v145_2.toInt.toNat z169 z175 ∧ cmT Q I145 p0 I1 ∧ (∀ b, K b = 1 ∨ K b = 6 → I1 b = I145 b))) (va_runV (As := [.int v145_2, .int z169, .int z175]) (rest := []) ⟨hx, hb, hml, hown, hts⟩ (s_X7_goes l dC dI cs L K G Q hQ x0 m0 tx tm H.size I145 J145 hI145 p0 hLp0 hKp0 v145_2 ⟨by omega, by omega⟩ z169 z175 (gB_mono (crM_sum hcr ⟨by omega, by omega⟩ ⟨by omega, by omega⟩ (by omega)) (by omega))) (cwV 3 hts (gV pq1474 pq1476 pq48 pq81 pq1477) rfl rfl rfl (by decide +kernel) ⟨(by rw [hR]; exact (Nat.le_of_ble_eq_true rfl)), (by rw [hR]; exact (Nat.le_of_ble_eq_true rfl))⟩) (sP_V hP hD hK hN hLp0 hKp0 rfl rfl) rfl rfl hl.1 rfl (lv_room (Nat.le_of_ble_eq_true rfl)) dX7_crop_178 ⟨(by rw [hR]; exact (Nat.le_of_ble_eq_true rfl)), (by rw [hR]; exact (Nat.le_of_ble_eq_true rfl))⟩) hS hAL hA (fun Iz178 Jz178 H locs hz178 hIz178 hP hS => ?_)
                  obtain ⟨hIz178, frc178, zp178, cnc178, dnc178⟩ := hIz178
                  have dn_Iz178 : (∀ b, K b = 1 ∨ K b = 6 → Iz178 b = I b) := fun b hc => (dnc178 b (by omega)).trans (dn_I145 b hc)
                  have cn_Iz178 := cmT_tr cn_I145 cnc178
                  exact j181 Iz178 Jz178 _ _ _ hIz178 dn_Iz178 cn_Iz178 (crM_go hcr ⟨by omega, by omega⟩ ⟨by omega, by omega⟩ (by omega) (by omega) zp178) hP hS (lv_sub hl [0, 1, 2] rfl))
            exact key145 _ 0 Iz140 Jz140 _ _ _ rfl ⟨by decide +kernel, by decide +kernel⟩ hIz140 dn_Iz140 cn_Iz140 (crM_mono cr140 (by rw [show (0 : Int32).toInt = 0 from by decide +kernel]; omega)) hP hS (lv_sub hl [1, 2, 0] rfl)
          · have t80 := tq_nle (k := z79.toInt) (q := v73_2.toInt) c80 rfl rfl
            refine lv_aload_n hx hb dX7_crop_83 rfl (lv_at hl 0 rfl) ?_
            refine lv_iload_n hx hb dX7_crop_84 rfl (lv_at hl 2 rfl) ?_
            refine ro_i (va_runV (As := [.int v73_2]) (rest := []) ⟨hx, hb, hml, hown, hts⟩ (s_X7_maskOf l dC dI cs L K G Q hQ x0 m0 tx tm H.size Iz12 Jz12 hIz12 p0 hLp0 hKp0 v73_2 ⟨by omega, by omega⟩) (cwV 1 hts (gV pq1431 pq1433 pq41 pq81 pq1434) rfl rfl rfl (by decide +kernel) ⟨(by rw [hR]; exact (Nat.le_of_ble_eq_true rfl)), (by rw [hR]; exact (Nat.le_of_ble_eq_true rfl))⟩) (sP_V hP hD hK hN hLp0 hKp0 rfl rfl) rfl rfl hl.1 rfl (lv_room (Nat.le_of_ble_eq_true rfl)) dX7_crop_85 ⟨(by rw [hR]; exact (Nat.le_of_ble_eq_true rfl)), (by rw [hR]; exact (Nat.le_of_ble_eq_true rfl))⟩) hS hP (fun z85 H locs hz85 hP hS => ?_)
            have bz85 := hz85
            refine lv_iload_n hx hb dX7_crop_88 rfl (lv_at hl 1 rfl) ?_
            have j133 : ∀ (H : Heap) (lo : List Loc) (ls : Array Slot), va_P (dC, dI) vwCl (Wd cs L K Iz12 Jz12 Q) H → va_S A s.heap H lo → lv_has ls 4 [(0, .ref p0), (1, .int p1), (2, .int v73_2)] → W p l e R s m (([.ref p0, .int p1] : List Value).toArray) below meth c H lo 0 0 Qz (F0 m 133 ls []) := by
              intro H lo ls hP hS hl
              obtain ⟨z133, ez133⟩ : ∃ y : Int32, y = v73_2 + 1 := ⟨_, rfl⟩
              refine lv_iinc (v := z133) (lv' := [(2, .int z133), (0, .ref p0), (1, .int p1)]) hx hb dX7_crop_133 hl (k := 2) rfl (by rw [ez133]; rfl) (by decide) rfl (fun ls hl => ?_)
              have bz133 := tq_add (k := v73_2.toInt) (q := 1) ez133 rfl (by decide +kernel) (by omega) (by omega)
              refine lv_goto (tgt := 73) hx hb dX7_crop_136 (by decide) ?_
              exact ih73 _ (by omega) z133 _ _ _ rfl ⟨by omega, by omega⟩ hP hS (lv_sub hl [1, 2, 0] rfl)
            refine lv_icmp_ne (tgt := 133) hx hb dX7_crop_89 (by decide) (fun c89 => ?_) (fun c89 => ?_)
            · have t89 := tq_ne (k := z85.toInt) (q := p1.toInt) c89 rfl rfl
              exact j133  _ _ _ hP hS (lv_sub hl [0, 1, 2] rfl)
            · have t89 := tq_eq (k := z85.toInt) (q := p1.toInt) c89 rfl rfl
              refine lv_aload_n hx hb dX7_crop_92 rfl (lv_at hl 0 rfl) ?_
              refine lv_iload_n hx hb dX7_crop_93 rfl (lv_at hl 2 rfl) ?_
              refine lv_iconst (v := 1) hx hb dX7_crop_94 (by decide +kernel) ?_
              refine ro_i (va_runV (As := [.int v73_2, .int 1]) (rest := []) ⟨hx, hb, hml, hown, hts⟩ (s_X7_of l dC dI cs L K G Q hQ x0 m0 tx tm H.size Iz12 Jz12 hIz12 p0 hLp0 hKp0 v73_2 ⟨by omega, by omega⟩ 1 ⟨by decide +kernel, by decide +kernel⟩) (cwV 2 hts (gV pq1320 pq1322 pq25 pq81 pq1323) rfl rfl rfl (by decide +kernel) ⟨(by rw [hR]; exact (Nat.le_of_ble_eq_true rfl)), (by rw [hR]; exact (Nat.le_of_ble_eq_true rfl))⟩) (sP_V hP hD hK hN hLp0 hKp0 rfl rfl) rfl rfl hl.1 rfl (lv_room (Nat.le_of_ble_eq_true rfl)) dX7_crop_95 ⟨(by rw [hR]; exact (Nat.le_of_ble_eq_true rfl)), (by rw [hR]; exact (Nat.le_of_ble_eq_true rfl))⟩) hS hP (fun z95 H locs hz95 hP hS => ?_)
              have cst95_1 : (1 : Int32).toInt = 1 := by decide +kernel
              obtain ⟨fez95, xpz95⟩ := hz95
              have bz95 := xpz95.2.1 rfl
              refine lv_aload_n hx hb dX7_crop_98 rfl (lv_at hl 0 rfl) ?_
              refine lv_iload_n hx hb dX7_crop_99 rfl (lv_at hl 1 rfl) ?_
              refine lv_iload_n hx hb dX7_crop_100 rfl (lv_at hl 2 rfl) ?_
              refine ro_i (va_runV (As := [.int p1, .int v73_2]) (rest := [.int z95]) ⟨hx, hb, hml, hown, hts⟩ (s_X7_leftOf l dC dI cs L K G Q hQ x0 m0 tx tm H.size Iz12 Jz12 hIz12 p0 hLp0 hKp0 p1 ⟨by omega, by omega⟩ v73_2 ⟨by omega, by omega⟩) (cwV 2 hts (gV pq1510 pq1512 pq54 pq81 pq1513) rfl rfl rfl (by decide +kernel) ⟨(by rw [hR]; exact (Nat.le_of_ble_eq_true rfl)), (by rw [hR]; exact (Nat.le_of_ble_eq_true rfl))⟩) (sP_V hP hD hK hN hLp0 hKp0 rfl rfl) rfl rfl hl.1 rfl (lv_room (Nat.le_of_ble_eq_true rfl)) dX7_crop_101 ⟨(by rw [hR]; exact (Nat.le_of_ble_eq_true rfl)), (by rw [hR]; exact (Nat.le_of_ble_eq_true rfl))⟩) hS hP (fun z101 H locs hz101 hP hS => ?_)
              have bz101 := hz101
              refine lv_iadd hx hb dX7_crop_104 ?_
              refine lv_topi (fun z104 ez104 => ?_)
              have bz104 := tq_add (k := z95.toInt) (q := z101.toInt) ez104 rfl rfl (by omega) (by omega)
              refine lv_sipush (v := 999) hx hb dX7_crop_105 (by decide +kernel) ?_
              refine lv_icmp_gt (tgt := 130) hx hb dX7_crop_108 (by decide) (fun c108 => ?_) (fun c108 => ?_)
              · have t108 := tq_lt (k := (999)) (q := z104.toInt) c108 (by decide +kernel) rfl
                refine lv_bipush (v := (-3)) hx hb dX7_crop_130 (by decide +kernel) ?_
                subst hR; subst hQz
                exact W.iret (v := (-3)) hx hb hr (fun t ht hW => ⟨⟨(-3), (), rfl, trivial, ⟨Iz12, Jz12, ⟨hIz12, cn_Iz12, dn_Iz12⟩, by rw [ht]; exact hP⟩⟩, hS.F ht⟩) hS.2.2 dX7_crop_132
              · have t108 := tq_nlt (k := (999)) (q := z104.toInt) c108 (by decide +kernel) rfl
                refine lv_aload_n hx hb dX7_crop_111 rfl (lv_at hl 0 rfl) ?_
                refine lv_iload_n hx hb dX7_crop_112 rfl (lv_at hl 2 rfl) ?_
                refine lv_iconst (v := 2) hx hb dX7_crop_113 (by decide +kernel) ?_
                refine ro_i (va_runV (As := [.int v73_2, .int 2]) (rest := []) ⟨hx, hb, hml, hown, hts⟩ (s_X7_of l dC dI cs L K G Q hQ x0 m0 tx tm H.size Iz12 Jz12 hIz12 p0 hLp0 hKp0 v73_2 ⟨by omega, by omega⟩ 2 ⟨by decide +kernel, by decide +kernel⟩) (cwV 2 hts (gV pq1320 pq1322 pq25 pq81 pq1323) rfl rfl rfl (by decide +kernel) ⟨(by rw [hR]; exact (Nat.le_of_ble_eq_true rfl)), (by rw [hR]; exact (Nat.le_of_ble_eq_true rfl))⟩) (sP_V hP hD hK hN hLp0 hKp0 rfl rfl) rfl rfl hl.1 rfl (lv_room (Nat.le_of_ble_eq_true rfl)) dX7_crop_114 ⟨(by rw [hR]; exact (Nat.le_of_ble_eq_true rfl)), (by rw [hR]; exact (Nat.le_of_ble_eq_true rfl))⟩) hS hP (fun z114 H locs hz114 hP hS => ?_)
                have cst114_2 : (2 : Int32).toInt = 2 := by decide +kernel
                obtain ⟨fez114, xpz114⟩ := hz114
                have bz114 := xpz114.2.2.1 rfl
                refine lv_aload_n hx hb dX7_crop_117 rfl (lv_at hl 0 rfl) ?_
                refine lv_iload_n hx hb dX7_crop_118 rfl (lv_at hl 1 rfl) ?_
                refine lv_iload_n hx hb dX7_crop_119 rfl (lv_at hl 2 rfl) ?_
                refine ro_i (va_runV (As := [.int p1, .int v73_2]) (rest := [.int z114]) ⟨hx, hb, hml, hown, hts⟩ (s_X7_aboveOf l dC dI cs L K G Q hQ x0 m0 tx tm H.size Iz12 Jz12 hIz12 p0 hLp0 hKp0 p1 ⟨by omega, by omega⟩ v73_2 ⟨by omega, by omega⟩) (cwV 2 hts (gV pq1514 pq1516 pq55 pq81 pq1517) rfl rfl rfl (by decide +kernel) ⟨(by rw [hR]; exact (Nat.le_of_ble_eq_true rfl)), (by rw [hR]; exact (Nat.le_of_ble_eq_true rfl))⟩) (sP_V hP hD hK hN hLp0 hKp0 rfl rfl) rfl rfl hl.1 rfl (lv_room (Nat.le_of_ble_eq_true rfl)) dX7_crop_120 ⟨(by rw [hR]; exact (Nat.le_of_ble_eq_true rfl)), (by rw [hR]; exact (Nat.le_of_ble_eq_true rfl))⟩) hS hP (fun z120 H locs hz120 hP hS => ?_)
                have bz120 := hz120
                refine lv_iadd hx hb dX7_crop_123 ?_
                refine lv_topi (fun z123 ez123 => ?_)
                have bz123 := tq_add (k := z114.toInt) (q := z120.toInt) ez123 rfl rfl (by omega) (by omega)
                refine lv_sipush (v := 999) hx hb dX7_crop_124 (by decide +kernel) ?_
                refine lv_icmp_le (tgt := 133) hx hb dX7_crop_127 (by decide) (fun c127 => ?_) (fun c127 => ?_)
                · have t127 := tq_le (k := z123.toInt) (q := (999)) c127 rfl (by decide +kernel)
                  exact j133  _ _ _ hP hS (lv_sub hl [0, 1, 2] rfl)
                · have t127 := tq_nle (k := z123.toInt) (q := (999)) c127 rfl (by decide +kernel)
                  refine lv_bipush (v := (-3)) hx hb dX7_crop_130 (by decide +kernel) ?_
                  subst hR; subst hQz
                  exact W.iret (v := (-3)) hx hb hr (fun t ht hW => ⟨⟨(-3), (), rfl, trivial, ⟨Iz12, Jz12, ⟨hIz12, cn_Iz12, dn_Iz12⟩, by rw [ht]; exact hP⟩⟩, hS.F ht⟩) hS.2.2 dX7_crop_132)
        exact key73 _ 0 _ _ _ rfl ⟨by decide +kernel, by decide +kernel⟩ hP hS (lv_sub hl [1, 2, 0] rfl)
      refine lv_if_ne (tgt := 71) hx hb dX7_crop_24 (by decide) (fun c24 => ?_) (fun c24 => ?_)
      · have t24 := tq_ne (k := z23.toInt) (q := (0)) c24 rfl (by decide +kernel)
        exact j71  _ _ _ hP hS (lv_sub hl [0, 1] rfl)
      · have t24 := tq_eq (k := z23.toInt) (q := (0)) c24 rfl (by decide +kernel)
        refine lv_aload_n hx hb dX7_crop_27 rfl (lv_at hl 0 rfl) ?_
        refine p_get (v := .ref y19) hx hb hts inX7 hown hK hP hLp0 hKp0 rfl rfl 20 (by decide) (hts _ pq1135) (congrArg (fun q => some (va_rf q)) ey19) dX7_crop_28 ?_
        refine lv_iconst (v := 1) hx hb dX7_crop_31 (by decide +kernel) ?_
        refine p_iald hx hb hK hP 16 hLy19 hKy19 rfl rfl (in_d (by decide +kernel)) dX7_crop_32 ?_
        refine lv_topi (fun z32 ez32 => ?_)
        have bz32 := oR_26 (i := (1 : Int32)) (k := (1)) (by decide +kernel) (Iv_at hIz12 hLy19 hKy19)
        rw [← ez32] at bz32
        refine lv_if_ne (tgt := 71) hx hb dX7_crop_33 (by decide) (fun c33 => ?_) (fun c33 => ?_)
        · have t33 := tq_ne (k := z32.toInt) (q := (0)) c33 rfl (by decide +kernel)
          exact j71  _ _ _ hP hS (lv_sub hl [0, 1] rfl)
        · have t33 := tq_eq (k := z32.toInt) (q := (0)) c33 rfl (by decide +kernel)
          refine lv_aload_n hx hb dX7_crop_36 rfl (lv_at hl 0 rfl) ?_
          refine p_get (v := .ref y19) hx hb hts inX7 hown hK hP hLp0 hKp0 rfl rfl 20 (by decide) (hts _ pq1135) (congrArg (fun q => some (va_rf q)) ey19) dX7_crop_37 ?_
          refine lv_iconst (v := 2) hx hb dX7_crop_40 (by decide +kernel) ?_
          refine p_iald hx hb hK hP 16 hLy19 hKy19 rfl rfl (in_d (by decide +kernel)) dX7_crop_41 ?_
          refine lv_topi (fun z41 ez41 => ?_)
          have bz41 := oR_26 (i := (2 : Int32)) (k := (2)) (by decide +kernel) (Iv_at hIz12 hLy19 hKy19)
          rw [← ez41] at bz41
          refine lv_aload_n hx hb dX7_crop_42 rfl (lv_at hl 0 rfl) ?_
          refine lv_iload_n hx hb dX7_crop_43 rfl (lv_at hl 1 rfl) ?_
          refine ro_i (va_runV (As := [.int p1]) (rest := [.int z41]) ⟨hx, hb, hml, hown, hts⟩ (s_X7_wide l dC dI cs L K G Q hQ x0 m0 tx tm H.size Iz12 Jz12 hIz12 p0 hLp0 hKp0 p1 ⟨by omega, by omega⟩) (cwV 1 hts (gV pq1368 pq1370 pq32 pq81 pq1371) rfl rfl rfl (by decide +kernel) ⟨(by rw [hR]; exact (Nat.le_of_ble_eq_true rfl)), (by rw [hR]; exact (Nat.le_of_ble_eq_true rfl))⟩) (sP_V hP hD hK hN hLp0 hKp0 rfl rfl) rfl rfl hl.1 rfl (lv_room (Nat.le_of_ble_eq_true rfl)) dX7_crop_44 ⟨(by rw [hR]; exact (Nat.le_of_ble_eq_true rfl)), (by rw [hR]; exact (Nat.le_of_ble_eq_true rfl))⟩) hS hP (fun z44 H locs hz44 hP hS => ?_)
          obtain ⟨bz44, fez44⟩ := hz44
          refine lv_iconst (v := 1) hx hb dX7_crop_47 (by decide +kernel) ?_
          refine lv_isub hx hb dX7_crop_48 ?_
          refine lv_topi (fun z48 ez48 => ?_)
          have bz48 := tq_sub (k := z44.toInt) (q := (1)) ez48 rfl (by decide +kernel) (by omega) (by omega)
          refine lv_icmp_ne (tgt := 71) hx hb dX7_crop_49 (by decide) (fun c49 => ?_) (fun c49 => ?_)
          · have t49 := tq_ne (k := z41.toInt) (q := z48.toInt) c49 rfl rfl
            exact j71  _ _ _ hP hS (lv_sub hl [0, 1] rfl)
          · have t49 := tq_eq (k := z41.toInt) (q := z48.toInt) c49 rfl rfl
            refine lv_aload_n hx hb dX7_crop_52 rfl (lv_at hl 0 rfl) ?_
            refine p_get (v := .ref y19) hx hb hts inX7 hown hK hP hLp0 hKp0 rfl rfl 20 (by decide) (hts _ pq1135) (congrArg (fun q => some (va_rf q)) ey19) dX7_crop_53 ?_
            refine lv_iconst (v := 3) hx hb dX7_crop_56 (by decide +kernel) ?_
            refine p_iald hx hb hK hP 16 hLy19 hKy19 rfl rfl (in_d (by decide +kernel)) dX7_crop_57 ?_
            refine lv_topi (fun z57 ez57 => ?_)
            have bz57 := oR_26 (i := (3 : Int32)) (k := (3)) (by decide +kernel) (Iv_at hIz12 hLy19 hKy19)
            rw [← ez57] at bz57
            refine lv_aload_n hx hb dX7_crop_58 rfl (lv_at hl 0 rfl) ?_
            refine lv_iload_n hx hb dX7_crop_59 rfl (lv_at hl 1 rfl) ?_
            refine ro_i (va_runV (As := [.int p1]) (rest := [.int z57]) ⟨hx, hb, hml, hown, hts⟩ (s_X7_high l dC dI cs L K G Q hQ x0 m0 tx tm H.size Iz12 Jz12 hIz12 p0 hLp0 hKp0 p1 ⟨by omega, by omega⟩) (cwV 1 hts (gV pq1372 pq1374 pq33 pq81 pq1375) rfl rfl rfl (by decide +kernel) ⟨(by rw [hR]; exact (Nat.le_of_ble_eq_true rfl)), (by rw [hR]; exact (Nat.le_of_ble_eq_true rfl))⟩) (sP_V hP hD hK hN hLp0 hKp0 rfl rfl) rfl rfl hl.1 rfl (lv_room (Nat.le_of_ble_eq_true rfl)) dX7_crop_60 ⟨(by rw [hR]; exact (Nat.le_of_ble_eq_true rfl)), (by rw [hR]; exact (Nat.le_of_ble_eq_true rfl))⟩) hS hP (fun z60 H locs hz60 hP hS => ?_)
            obtain ⟨bz60, fez60⟩ := hz60
            refine lv_iconst (v := 1) hx hb dX7_crop_63 (by decide +kernel) ?_
            refine lv_isub hx hb dX7_crop_64 ?_
            refine lv_topi (fun z64 ez64 => ?_)
            have bz64 := tq_sub (k := z60.toInt) (q := (1)) ez64 rfl (by decide +kernel) (by omega) (by omega)
            refine lv_icmp_ne (tgt := 71) hx hb dX7_crop_65 (by decide) (fun c65 => ?_) (fun c65 => ?_)
            · have t65 := tq_ne (k := z57.toInt) (q := z64.toInt) c65 rfl rfl
              exact j71  _ _ _ hP hS (lv_sub hl [0, 1] rfl)
            · have t65 := tq_eq (k := z57.toInt) (q := z64.toInt) c65 rfl rfl
              refine lv_bipush (v := (-2)) hx hb dX7_crop_68 (by decide +kernel) ?_
              subst hR; subst hQz
              exact W.iret (v := (-2)) hx hb hr (fun t ht hW => ⟨⟨(-2), (), rfl, trivial, ⟨Iz12, Jz12, ⟨hIz12, cn_Iz12, dn_Iz12⟩, by rw [ht]; exact hP⟩⟩, hS.F ht⟩) hS.2.2 dX7_crop_70
  · have t5 := tq_eq (k := z2.toInt) (q := (0)) c5 rfl (by decide +kernel)
    refine lv_iconst (v := (-1)) hx hb dX7_crop_8 (by decide +kernel) ?_
    subst hR; subst hQz
    exact W.iret (v := (-1)) hx hb hr (fun t ht hW => ⟨⟨(-1), (), rfl, trivial, ⟨I, J, ⟨hI, cn_I, dn_I⟩, by rw [ht]; exact hP⟩⟩, hS.F ht⟩) hS.2.2 dX7_crop_9
