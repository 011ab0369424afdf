abbrev cX7_crop : ByteArray := prog_9_method_78_code
abbrev cX7_ticks : ByteArray := prog_9_method_82_code
def yX7_crop : MethodName := ⟨RX7, "crop", "(I)I"⟩
def yX7_ticks : MethodName := ⟨RX7, "ticks", "(I)I"⟩
theorem dX7_crop_0 : decode cX7_crop 0 = .ok (.aload_n 0, 1) := by decide +kernel
theorem dX7_crop_1 : decode cX7_crop 1 = .ok (.iload_n 1, 1) := by decide +kernel
theorem dX7_crop_2 : decode cX7_crop 2 = .ok (.invokevirtual 301, 3) := by decide +kernel
theorem dX7_crop_5 : decode cX7_crop 5 = .ok (.ifCond .ne 5, 3) := by decide +kernel
theorem dX7_crop_8 : decode cX7_crop 8 = .ok (.iconst (-1), 1) := by decide +kernel
theorem dX7_crop_9 : decode cX7_crop 9 = .ok (.ireturn, 1) := by decide +kernel
theorem dX7_crop_10 : decode cX7_crop 10 = .ok (.aload_n 0, 1) := by decide +kernel
theorem dX7_crop_11 : decode cX7_crop 11 = .ok (.iload_n 1, 1) := by decide +kernel
theorem dX7_crop_12 : decode cX7_crop 12 = .ok (.invokevirtual 346, 3) := by decide +kernel
theorem dX7_crop_15 : decode cX7_crop 15 = .ok (.ifCond .eq 53, 3) := by decide +kernel
theorem dX7_crop_18 : decode cX7_crop 18 = .ok (.aload_n 0, 1) := by decide +kernel
theorem dX7_crop_19 : decode cX7_crop 19 = .ok (.getfield 55, 3) := by decide +kernel
theorem dX7_crop_22 : decode cX7_crop 22 = .ok (.iconst 0, 1) := by decide +kernel
theorem dX7_crop_23 : decode cX7_crop 23 = .ok (.iaload, 1) := by decide +kernel
theorem dX7_crop_24 : decode cX7_crop 24 = .ok (.ifCond .ne 47, 3) := by decide +kernel
theorem dX7_crop_27 : decode cX7_crop 27 = .ok (.aload_n 0, 1) := by decide +kernel
theorem dX7_crop_28 : decode cX7_crop 28 = .ok (.getfield 55, 3) := by decide +kernel
theorem dX7_crop_31 : decode cX7_crop 31 = .ok (.iconst 1, 1) := by decide +kernel
theorem dX7_crop_32 : decode cX7_crop 32 = .ok (.iaload, 1) := by decide +kernel
theorem dX7_crop_33 : decode cX7_crop 33 = .ok (.ifCond .ne 38, 3) := by decide +kernel
theorem dX7_crop_36 : decode cX7_crop 36 = .ok (.aload_n 0, 1) := by decide +kernel
theorem dX7_crop_37 : decode cX7_crop 37 = .ok (.getfield 55, 3) := by decide +kernel
theorem dX7_crop_40 : decode cX7_crop 40 = .ok (.iconst 2, 1) := by decide +kernel
theorem dX7_crop_41 : decode cX7_crop 41 = .ok (.iaload, 1) := by decide +kernel
theorem dX7_crop_42 : decode cX7_crop 42 = .ok (.aload_n 0, 1) := by decide +kernel
theorem dX7_crop_43 : decode cX7_crop 43 = .ok (.iload_n 1, 1) := by decide +kernel
theorem dX7_crop_44 : decode cX7_crop 44 = .ok (.invokevirtual 202, 3) := by decide +kernel
theorem dX7_crop_47 : decode cX7_crop 47 = .ok (.iconst 1, 1) := by decide +kernel
theorem dX7_crop_48 : decode cX7_crop 48 = .ok (.isub, 1) := by decide +kernel
theorem dX7_crop_49 : decode cX7_crop 49 = .ok (.if_icmp .ne 22, 3) := by decide +kernel
theorem dX7_crop_52 : decode cX7_crop 52 = .ok (.aload_n 0, 1) := by decide +kernel
theorem dX7_crop_53 : decode cX7_crop 53 = .ok (.getfield 55, 3) := by decide +kernel
theorem dX7_crop_56 : decode cX7_crop 56 = .ok (.iconst 3, 1) := by decide +kernel
theorem dX7_crop_57 : decode cX7_crop 57 = .ok (.iaload, 1) := by decide +kernel
theorem dX7_crop_58 : decode cX7_crop 58 = .ok (.aload_n 0, 1) := by decide +kernel
theorem dX7_crop_59 : decode cX7_crop 59 = .ok (.iload_n 1, 1) := by decide +kernel
theorem dX7_crop_60 : decode cX7_crop 60 = .ok (.invokevirtual 205, 3) := by decide +kernel
theorem dX7_crop_63 : decode cX7_crop 63 = .ok (.iconst 1, 1) := by decide +kernel
theorem dX7_crop_64 : decode cX7_crop 64 = .ok (.isub, 1) := by decide +kernel
theorem dX7_crop_65 : decode cX7_crop 65 = .ok (.if_icmp .ne 6, 3) := by decide +kernel
theorem dX7_crop_68 : decode cX7_crop 68 = .ok (.bipush (-2), 2) := by decide +kernel
theorem dX7_crop_70 : decode cX7_crop 70 = .ok (.ireturn, 1) := by decide +kernel
theorem dX7_crop_71 : decode cX7_crop 71 = .ok (.iconst 0, 1) := by decide +kernel
theorem dX7_crop_72 : decode cX7_crop 72 = .ok (.istore_n 2, 1) := by decide +kernel
theorem dX7_crop_73 : decode cX7_crop 73 = .ok (.iload_n 2, 1) := by decide +kernel
theorem dX7_crop_74 : decode cX7_crop 74 = .ok (.aload_n 0, 1) := by decide +kernel
theorem dX7_crop_75 : decode cX7_crop 75 = .ok (.getfield 9, 3) := by decide +kernel
theorem dX7_crop_78 : decode cX7_crop 78 = .ok (.iconst 1, 1) := by decide +kernel
theorem dX7_crop_79 : decode cX7_crop 79 = .ok (.iaload, 1) := by decide +kernel
theorem dX7_crop_80 : decode cX7_crop 80 = .ok (.if_icmp .ge 59, 3) := by decide +kernel
theorem dX7_crop_83 : decode cX7_crop 83 = .ok (.aload_n 0, 1) := by decide +kernel
theorem dX7_crop_84 : decode cX7_crop 84 = .ok (.iload_n 2, 1) := by decide +kernel
theorem dX7_crop_85 : decode cX7_crop 85 = .ok (.invokevirtual 212, 3) := by decide +kernel
theorem dX7_crop_88 : decode cX7_crop 88 = .ok (.iload_n 1, 1) := by decide +kernel
theorem dX7_crop_89 : decode cX7_crop 89 = .ok (.if_icmp .ne 44, 3) := by decide +kernel
theorem dX7_crop_92 : decode cX7_crop 92 = .ok (.aload_n 0, 1) := by decide +kernel
theorem dX7_crop_93 : decode cX7_crop 93 = .ok (.iload_n 2, 1) := by decide +kernel
theorem dX7_crop_94 : decode cX7_crop 94 = .ok (.iconst 1, 1) := by decide +kernel
theorem dX7_crop_95 : decode cX7_crop 95 = .ok (.invokevirtual 199, 3) := by decide +kernel
theorem dX7_crop_98 : decode cX7_crop 98 = .ok (.aload_n 0, 1) := by decide +kernel
theorem dX7_crop_99 : decode cX7_crop 99 = .ok (.iload_n 1, 1) := by decide +kernel
theorem dX7_crop_100 : decode cX7_crop 100 = .ok (.iload_n 2, 1) := by decide +kernel
theorem dX7_crop_101 : decode cX7_crop 101 = .ok (.invokevirtual 349, 3) := by decide +kernel
theorem dX7_crop_104 : decode cX7_crop 104 = .ok (.iadd, 1) := by decide +kernel
theorem dX7_crop_105 : decode cX7_crop 105 = .ok (.sipush 999, 3) := by decide +kernel
theorem dX7_crop_108 : decode cX7_crop 108 = .ok (.if_icmp .gt 22, 3) := by decide +kernel
theorem dX7_crop_111 : decode cX7_crop 111 = .ok (.aload_n 0, 1) := by decide +kernel
theorem dX7_crop_112 : decode cX7_crop 112 = .ok (.iload_n 2, 1) := by decide +kernel
theorem dX7_crop_113 : decode cX7_crop 113 = .ok (.iconst 2, 1) := by decide +kernel
theorem dX7_crop_114 : decode cX7_crop 114 = .ok (.invokevirtual 199, 3) := by decide +kernel
theorem dX7_crop_117 : decode cX7_crop 117 = .ok (.aload_n 0, 1) := by decide +kernel
theorem dX7_crop_118 : decode cX7_crop 118 = .ok (.iload_n 1, 1) := by decide +kernel
theorem dX7_crop_119 : decode cX7_crop 119 = .ok (.iload_n 2, 1) := by decide +kernel
theorem dX7_crop_120 : decode cX7_crop 120 = .ok (.invokevirtual 352, 3) := by decide +kernel
theorem dX7_crop_123 : decode cX7_crop 123 = .ok (.iadd, 1) := by decide +kernel
theorem dX7_crop_124 : decode cX7_crop 124 = .ok (.sipush 999, 3) := by decide +kernel
theorem dX7_crop_127 : decode cX7_crop 127 = .ok (.if_icmp .le 6, 3) := by decide +kernel
theorem dX7_crop_130 : decode cX7_crop 130 = .ok (.bipush (-3), 2) := by decide +kernel
theorem dX7_crop_132 : decode cX7_crop 132 = .ok (.ireturn, 1) := by decide +kernel
theorem dX7_crop_133 : decode cX7_crop 133 = .ok (.iinc 2 1, 3) := by decide +kernel
theorem dX7_crop_136 : decode cX7_crop 136 = .ok (.goto (-63), 3) := by decide +kernel
theorem dX7_crop_139 : decode cX7_crop 139 = .ok (.aload_n 0, 1) := by decide +kernel
theorem dX7_crop_140 : decode cX7_crop 140 = .ok (.invokevirtual 286, 3) := by decide +kernel
theorem dX7_crop_143 : decode cX7_crop 143 = .ok (.iconst 0, 1) := by decide +kernel
theorem dX7_crop_144 : decode cX7_crop 144 = .ok (.istore_n 2, 1) := by decide +kernel
theorem dX7_crop_145 : decode cX7_crop 145 = .ok (.iload_n 2, 1) := by decide +kernel
theorem dX7_crop_146 : decode cX7_crop 146 = .ok (.aload_n 0, 1) := by decide +kernel
theorem dX7_crop_147 : decode cX7_crop 147 = .ok (.getfield 9, 3) := by decide +kernel
theorem dX7_crop_150 : decode cX7_crop 150 = .ok (.iconst 1, 1) := by decide +kernel
theorem dX7_crop_151 : decode cX7_crop 151 = .ok (.iaload, 1) := by decide +kernel
theorem dX7_crop_152 : decode cX7_crop 152 = .ok (.if_icmp .ge 35, 3) := by decide +kernel
theorem dX7_crop_155 : decode cX7_crop 155 = .ok (.aload_n 0, 1) := by decide +kernel
theorem dX7_crop_156 : decode cX7_crop 156 = .ok (.iload_n 2, 1) := by decide +kernel
theorem dX7_crop_157 : decode cX7_crop 157 = .ok (.invokevirtual 212, 3) := by decide +kernel
theorem dX7_crop_160 : decode cX7_crop 160 = .ok (.iload_n 1, 1) := by decide +kernel
theorem dX7_crop_161 : decode cX7_crop 161 = .ok (.if_icmp .ne 20, 3) := by decide +kernel
theorem dX7_crop_164 : decode cX7_crop 164 = .ok (.aload_n 0, 1) := by decide +kernel
theorem dX7_crop_165 : decode cX7_crop 165 = .ok (.iload_n 2, 1) := by decide +kernel
theorem dX7_crop_166 : decode cX7_crop 166 = .ok (.aload_n 0, 1) := by decide +kernel
theorem dX7_crop_167 : decode cX7_crop 167 = .ok (.iload_n 1, 1) := by decide +kernel
theorem dX7_crop_168 : decode cX7_crop 168 = .ok (.iload_n 2, 1) := by decide +kernel
theorem dX7_crop_169 : decode cX7_crop 169 = .ok (.invokevirtual 349, 3) := by decide +kernel
theorem dX7_crop_172 : decode cX7_crop 172 = .ok (.aload_n 0, 1) := by decide +kernel
theorem dX7_crop_173 : decode cX7_crop 173 = .ok (.iload_n 1, 1) := by decide +kernel
theorem dX7_crop_174 : decode cX7_crop 174 = .ok (.iload_n 2, 1) := by decide +kernel
theorem dX7_crop_175 : decode cX7_crop 175 = .ok (.invokevirtual 352, 3) := by decide +kernel
theorem dX7_crop_178 : decode cX7_crop 178 = .ok (.invokevirtual 283, 3) := by decide +kernel
theorem dX7_crop_181 : decode cX7_crop 181 = .ok (.iinc 2 1, 3) := by decide +kernel
theorem dX7_crop_184 : decode cX7_crop 184 = .ok (.goto (-39), 3) := by decide +kernel
theorem dX7_crop_187 : decode cX7_crop 187 = .ok (.aload_n 0, 1) := by decide +kernel
theorem dX7_crop_188 : decode cX7_crop 188 = .ok (.invokevirtual 304, 3) := by decide +kernel
theorem dX7_crop_191 : decode cX7_crop 191 = .ok (.aload_n 0, 1) := by decide +kernel
theorem dX7_crop_192 : decode cX7_crop 192 = .ok (.getfield 55, 3) := by decide +kernel
theorem dX7_crop_195 : decode cX7_crop 195 = .ok (.iconst 1, 1) := by decide +kernel
theorem dX7_crop_196 : decode cX7_crop 196 = .ok (.iaload, 1) := by decide +kernel
theorem dX7_crop_197 : decode cX7_crop 197 = .ok (.istore_n 2, 1) := by decide +kernel
theorem dX7_crop_198 : decode cX7_crop 198 = .ok (.iload_n 2, 1) := by decide +kernel
theorem dX7_crop_199 : decode cX7_crop 199 = .ok (.aload_n 0, 1) := by decide +kernel
theorem dX7_crop_200 : decode cX7_crop 200 = .ok (.getfield 55, 3) := by decide +kernel
theorem dX7_crop_203 : decode cX7_crop 203 = .ok (.iconst 3, 1) := by decide +kernel
theorem dX7_crop_204 : decode cX7_crop 204 = .ok (.iaload, 1) := by decide +kernel
theorem dX7_crop_205 : decode cX7_crop 205 = .ok (.if_icmp .gt 66, 3) := by decide +kernel
theorem dX7_crop_208 : decode cX7_crop 208 = .ok (.aload_n 0, 1) := by decide +kernel
theorem dX7_crop_209 : decode cX7_crop 209 = .ok (.getfield 55, 3) := by decide +kernel
theorem dX7_crop_212 : decode cX7_crop 212 = .ok (.iconst 0, 1) := by decide +kernel
theorem dX7_crop_213 : decode cX7_crop 213 = .ok (.iaload, 1) := by decide +kernel
theorem dX7_crop_214 : decode cX7_crop 214 = .ok (.istore_n 3, 1) := by decide +kernel
theorem dX7_crop_215 : decode cX7_crop 215 = .ok (.iload_n 3, 1) := by decide +kernel
theorem dX7_crop_216 : decode cX7_crop 216 = .ok (.aload_n 0, 1) := by decide +kernel
theorem dX7_crop_217 : decode cX7_crop 217 = .ok (.getfield 55, 3) := by decide +kernel
theorem dX7_crop_220 : decode cX7_crop 220 = .ok (.iconst 2, 1) := by decide +kernel
theorem dX7_crop_221 : decode cX7_crop 221 = .ok (.iaload, 1) := by decide +kernel
theorem dX7_crop_222 : decode cX7_crop 222 = .ok (.if_icmp .gt 43, 3) := by decide +kernel
theorem dX7_crop_225 : decode cX7_crop 225 = .ok (.aload_n 0, 1) := by decide +kernel
theorem dX7_crop_226 : decode cX7_crop 226 = .ok (.iload_n 1, 1) := by decide +kernel
theorem dX7_crop_227 : decode cX7_crop 227 = .ok (.iload_n 3, 1) := by decide +kernel
theorem dX7_crop_228 : decode cX7_crop 228 = .ok (.iload_n 2, 1) := by decide +kernel
theorem dX7_crop_229 : decode cX7_crop 229 = .ok (.invokevirtual 215, 3) := by decide +kernel
theorem dX7_crop_232 : decode cX7_crop 232 = .ok (.ifCond .eq 27, 3) := by decide +kernel
theorem dX7_crop_235 : decode cX7_crop 235 = .ok (.aload_n 0, 1) := by decide +kernel
theorem dX7_crop_236 : decode cX7_crop 236 = .ok (.getfield 52, 3) := by decide +kernel
theorem dX7_crop_239 : decode cX7_crop 239 = .ok (.iconst 0, 1) := by decide +kernel
theorem dX7_crop_240 : decode cX7_crop 240 = .ok (.iload_n 3, 1) := by decide +kernel
theorem dX7_crop_241 : decode cX7_crop 241 = .ok (.aload_n 0, 1) := by decide +kernel
theorem dX7_crop_242 : decode cX7_crop 242 = .ok (.getfield 55, 3) := by decide +kernel
theorem dX7_crop_245 : decode cX7_crop 245 = .ok (.iconst 0, 1) := by decide +kernel
theorem dX7_crop_246 : decode cX7_crop 246 = .ok (.iaload, 1) := by decide +kernel
theorem dX7_crop_247 : decode cX7_crop 247 = .ok (.isub, 1) := by decide +kernel
theorem dX7_crop_248 : decode cX7_crop 248 = .ok (.iload_n 2, 1) := by decide +kernel
theorem dX7_crop_249 : decode cX7_crop 249 = .ok (.aload_n 0, 1) := by decide +kernel
theorem dX7_crop_250 : decode cX7_crop 250 = .ok (.getfield 55, 3) := by decide +kernel
theorem dX7_crop_253 : decode cX7_crop 253 = .ok (.iconst 1, 1) := by decide +kernel
theorem dX7_crop_254 : decode cX7_crop 254 = .ok (.iaload, 1) := by decide +kernel
theorem dX7_crop_255 : decode cX7_crop 255 = .ok (.isub, 1) := by decide +kernel
theorem dX7_crop_256 : decode cX7_crop 256 = .ok (.invokestatic 157, 3) := by decide +kernel
theorem dX7_crop_259 : decode cX7_crop 259 = .ok (.iinc 3 1, 3) := by decide +kernel
theorem dX7_crop_262 : decode cX7_crop 262 = .ok (.goto (-47), 3) := by decide +kernel
theorem dX7_crop_265 : decode cX7_crop 265 = .ok (.iinc 2 1, 3) := by decide +kernel
theorem dX7_crop_268 : decode cX7_crop 268 = .ok (.goto (-70), 3) := by decide +kernel
theorem dX7_crop_271 : decode cX7_crop 271 = .ok (.aload_n 0, 1) := by decide +kernel
theorem dX7_crop_272 : decode cX7_crop 272 = .ok (.iload_n 1, 1) := by decide +kernel
theorem dX7_crop_273 : decode cX7_crop 273 = .ok (.invokevirtual 310, 3) := by decide +kernel
theorem dX7_crop_276 : decode cX7_crop 276 = .ok (.aload_n 0, 1) := by decide +kernel
theorem dX7_crop_277 : decode cX7_crop 277 = .ok (.getfield 9, 3) := by decide +kernel
theorem dX7_crop_280 : decode cX7_crop 280 = .ok (.iconst 3, 1) := by decide +kernel
theorem dX7_crop_281 : decode cX7_crop 281 = .ok (.iload_n 1, 1) := by decide +kernel
theorem dX7_crop_282 : decode cX7_crop 282 = .ok (.iadd, 1) := by decide +kernel
theorem dX7_crop_283 : decode cX7_crop 283 = .ok (.aload_n 0, 1) := by decide +kernel
theorem dX7_crop_284 : decode cX7_crop 284 = .ok (.getfield 55, 3) := by decide +kernel
theorem dX7_crop_287 : decode cX7_crop 287 = .ok (.iconst 2, 1) := by decide +kernel
theorem dX7_crop_288 : decode cX7_crop 288 = .ok (.iaload, 1) := by decide +kernel
theorem dX7_crop_289 : decode cX7_crop 289 = .ok (.aload_n 0, 1) := by decide +kernel
theorem dX7_crop_290 : decode cX7_crop 290 = .ok (.getfield 55, 3) := by decide +kernel
theorem dX7_crop_293 : decode cX7_crop 293 = .ok (.iconst 0, 1) := by decide +kernel
theorem dX7_crop_294 : decode cX7_crop 294 = .ok (.iaload, 1) := by decide +kernel
theorem dX7_crop_295 : decode cX7_crop 295 = .ok (.isub, 1) := by decide +kernel
theorem dX7_crop_296 : decode cX7_crop 296 = .ok (.iconst 1, 1) := by decide +kernel
theorem dX7_crop_297 : decode cX7_crop 297 = .ok (.iadd, 1) := by decide +kernel
theorem dX7_crop_298 : decode cX7_crop 298 = .ok (.iastore, 1) := by decide +kernel
theorem dX7_crop_299 : decode cX7_crop 299 = .ok (.aload_n 0, 1) := by decide +kernel
theorem dX7_crop_300 : decode cX7_crop 300 = .ok (.getfield 9, 3) := by decide +kernel
theorem dX7_crop_303 : decode cX7_crop 303 = .ok (.bipush 11, 2) := by decide +kernel
theorem dX7_crop_305 : decode cX7_crop 305 = .ok (.iload_n 1, 1) := by decide +kernel
theorem dX7_crop_306 : decode cX7_crop 306 = .ok (.iadd, 1) := by decide +kernel
theorem dX7_crop_307 : decode cX7_crop 307 = .ok (.aload_n 0, 1) := by decide +kernel
theorem dX7_crop_308 : decode cX7_crop 308 = .ok (.getfield 55, 3) := by decide +kernel
theorem dX7_crop_311 : decode cX7_crop 311 = .ok (.iconst 3, 1) := by decide +kernel
theorem dX7_crop_312 : decode cX7_crop 312 = .ok (.iaload, 1) := by decide +kernel
theorem dX7_crop_313 : decode cX7_crop 313 = .ok (.aload_n 0, 1) := by decide +kernel
theorem dX7_crop_314 : decode cX7_crop 314 = .ok (.getfield 55, 3) := by decide +kernel
theorem dX7_crop_317 : decode cX7_crop 317 = .ok (.iconst 1, 1) := by decide +kernel
theorem dX7_crop_318 : decode cX7_crop 318 = .ok (.iaload, 1) := by decide +kernel
theorem dX7_crop_319 : decode cX7_crop 319 = .ok (.isub, 1) := by decide +kernel
theorem dX7_crop_320 : decode cX7_crop 320 = .ok (.iconst 1, 1) := by decide +kernel
theorem dX7_crop_321 : decode cX7_crop 321 = .ok (.iadd, 1) := by decide +kernel
theorem dX7_crop_322 : decode cX7_crop 322 = .ok (.iastore, 1) := by decide +kernel
theorem dX7_crop_323 : decode cX7_crop 323 = .ok (.aload_n 0, 1) := by decide +kernel
theorem dX7_crop_324 : decode cX7_crop 324 = .ok (.iload_n 1, 1) := by decide +kernel
theorem dX7_crop_325 : decode cX7_crop 325 = .ok (.invokevirtual 202, 3) := by decide +kernel
theorem dX7_crop_328 : decode cX7_crop 328 = .ok (.aload_n 0, 1) := by decide +kernel
theorem dX7_crop_329 : decode cX7_crop 329 = .ok (.iload_n 1, 1) := by decide +kernel
theorem dX7_crop_330 : decode cX7_crop 330 = .ok (.invokevirtual 205, 3) := by decide +kernel
theorem dX7_crop_333 : decode cX7_crop 333 = .ok (.imul, 1) := by decide +kernel
theorem dX7_crop_334 : decode cX7_crop 334 = .ok (.ireturn, 1) := by decide +kernel
theorem dX7_ticks_0 : decode cX7_ticks 0 = .ok (.iload_n 1, 1) := by decide +kernel
theorem dX7_ticks_1 : decode cX7_ticks 1 = .ok (.i2l, 1) := by decide +kernel
theorem dX7_ticks_2 : decode cX7_ticks 2 = .ok (.lconst 1, 1) := by decide +kernel
theorem dX7_ticks_3 : decode cX7_ticks 3 = .ok (.ldc2_w 299, 3) := by decide +kernel
theorem dX7_ticks_6 : decode cX7_ticks 6 = .ok (.invokestatic 96, 3) := by decide +kernel
theorem dX7_ticks_9 : decode cX7_ticks 9 = .ok (.ifCond .ne 5, 3) := by decide +kernel
theorem dX7_ticks_12 : decode cX7_ticks 12 = .ok (.iconst (-1), 1) := by decide +kernel
theorem dX7_ticks_13 : decode cX7_ticks 13 = .ok (.ireturn, 1) := by decide +kernel
theorem dX7_ticks_14 : decode cX7_ticks 14 = .ok (.aload_n 0, 1) := by decide +kernel
theorem dX7_ticks_15 : decode cX7_ticks 15 = .ok (.invokevirtual 286, 3) := by decide +kernel
theorem dX7_ticks_18 : decode cX7_ticks 18 = .ok (.aload_n 0, 1) := by decide +kernel
theorem dX7_ticks_19 : decode cX7_ticks 19 = .ok (.invokevirtual 331, 3) := by decide +kernel
theorem dX7_ticks_22 : decode cX7_ticks 22 = .ok (.iconst 0, 1) := by decide +kernel
theorem dX7_ticks_23 : decode cX7_ticks 23 = .ok (.istore_n 2, 1) := by decide +kernel
theorem dX7_ticks_24 : decode cX7_ticks 24 = .ok (.iconst 0, 1) := by decide +kernel
theorem dX7_ticks_25 : decode cX7_ticks 25 = .ok (.istore_n 3, 1) := by decide +kernel
theorem dX7_ticks_26 : decode cX7_ticks 26 = .ok (.iload_n 3, 1) := by decide +kernel
theorem dX7_ticks_27 : decode cX7_ticks 27 = .ok (.iload_n 1, 1) := by decide +kernel
theorem dX7_ticks_28 : decode cX7_ticks 28 = .ok (.if_icmp .ge 107, 3) := by decide +kernel
theorem dX7_ticks_31 : decode cX7_ticks 31 = .ok (.iconst 0, 1) := by decide +kernel
theorem dX7_ticks_32 : decode cX7_ticks 32 = .ok (.istore 4, 2) := by decide +kernel
theorem dX7_ticks_34 : decode cX7_ticks 34 = .ok (.iload 4, 2) := by decide +kernel
theorem dX7_ticks_36 : decode cX7_ticks 36 = .ok (.aload_n 0, 1) := by decide +kernel
theorem dX7_ticks_37 : decode cX7_ticks 37 = .ok (.getfield 9, 3) := by decide +kernel
theorem dX7_ticks_40 : decode cX7_ticks 40 = .ok (.iconst 1, 1) := by decide +kernel
theorem dX7_ticks_41 : decode cX7_ticks 41 = .ok (.iaload, 1) := by decide +kernel
theorem dX7_ticks_42 : decode cX7_ticks 42 = .ok (.if_icmp .ge 77, 3) := by decide +kernel
theorem dX7_ticks_45 : decode cX7_ticks 45 = .ok (.aload_n 0, 1) := by decide +kernel
theorem dX7_ticks_46 : decode cX7_ticks 46 = .ok (.iload 4, 2) := by decide +kernel
theorem dX7_ticks_48 : decode cX7_ticks 48 = .ok (.bipush 6, 2) := by decide +kernel
theorem dX7_ticks_50 : decode cX7_ticks 50 = .ok (.invokevirtual 199, 3) := by decide +kernel
theorem dX7_ticks_53 : decode cX7_ticks 53 = .ok (.istore 5, 2) := by decide +kernel
theorem dX7_ticks_55 : decode cX7_ticks 55 = .ok (.aload_n 0, 1) := by decide +kernel
theorem dX7_ticks_56 : decode cX7_ticks 56 = .ok (.iload 4, 2) := by decide +kernel
theorem dX7_ticks_58 : decode cX7_ticks 58 = .ok (.bipush 7, 2) := by decide +kernel
theorem dX7_ticks_60 : decode cX7_ticks 60 = .ok (.invokevirtual 199, 3) := by decide +kernel
theorem dX7_ticks_63 : decode cX7_ticks 63 = .ok (.istore 6, 2) := by decide +kernel
theorem dX7_ticks_65 : decode cX7_ticks 65 = .ok (.aload_n 0, 1) := by decide +kernel
theorem dX7_ticks_66 : decode cX7_ticks 66 = .ok (.iload 4, 2) := by decide +kernel
theorem dX7_ticks_68 : decode cX7_ticks 68 = .ok (.iload 5, 2) := by decide +kernel
theorem dX7_ticks_70 : decode cX7_ticks 70 = .ok (.iload 6, 2) := by decide +kernel
theorem dX7_ticks_72 : decode cX7_ticks 72 = .ok (.invokevirtual 343, 3) := by decide +kernel
theorem dX7_ticks_75 : decode cX7_ticks 75 = .ok (.iload 5, 2) := by decide +kernel
theorem dX7_ticks_77 : decode cX7_ticks 77 = .ok (.iload 6, 2) := by decide +kernel
theorem dX7_ticks_79 : decode cX7_ticks 79 = .ok (.invokestatic 260, 3) := by decide +kernel
theorem dX7_ticks_82 : decode cX7_ticks 82 = .ok (.if_icmp .ne 6, 3) := by decide +kernel
theorem dX7_ticks_85 : decode cX7_ticks 85 = .ok (.goto 28, 3) := by decide +kernel
theorem dX7_ticks_88 : decode cX7_ticks 88 = .ok (.iinc 2 1, 3) := by decide +kernel
theorem dX7_ticks_91 : decode cX7_ticks 91 = .ok (.aload_n 0, 1) := by decide +kernel
theorem dX7_ticks_92 : decode cX7_ticks 92 = .ok (.iload 4, 2) := by decide +kernel
theorem dX7_ticks_94 : decode cX7_ticks 94 = .ok (.bipush 6, 2) := by decide +kernel
theorem dX7_ticks_96 : decode cX7_ticks 96 = .ok (.iload 5, 2) := by decide +kernel
theorem dX7_ticks_98 : decode cX7_ticks 98 = .ok (.ineg, 1) := by decide +kernel
theorem dX7_ticks_99 : decode cX7_ticks 99 = .ok (.invokevirtual 276, 3) := by decide +kernel
theorem dX7_ticks_102 : decode cX7_ticks 102 = .ok (.aload_n 0, 1) := by decide +kernel
theorem dX7_ticks_103 : decode cX7_ticks 103 = .ok (.iload 4, 2) := by decide +kernel
theorem dX7_ticks_105 : decode cX7_ticks 105 = .ok (.bipush 7, 2) := by decide +kernel
theorem dX7_ticks_107 : decode cX7_ticks 107 = .ok (.iload 6, 2) := by decide +kernel
theorem dX7_ticks_109 : decode cX7_ticks 109 = .ok (.ineg, 1) := by decide +kernel
theorem dX7_ticks_110 : decode cX7_ticks 110 = .ok (.invokevirtual 276, 3) := by decide +kernel
theorem dX7_ticks_113 : decode cX7_ticks 113 = .ok (.iinc 4 1, 3) := by decide +kernel
theorem dX7_ticks_116 : decode cX7_ticks 116 = .ok (.goto (-82), 3) := by decide +kernel
theorem dX7_ticks_119 : decode cX7_ticks 119 = .ok (.aload_n 0, 1) := by decide +kernel
theorem dX7_ticks_120 : decode cX7_ticks 120 = .ok (.getfield 9, 3) := by decide +kernel
theorem dX7_ticks_123 : decode cX7_ticks 123 = .ok (.iconst 2, 1) := by decide +kernel
theorem dX7_ticks_124 : decode cX7_ticks 124 = .ok (.dup2, 1) := by decide +kernel
theorem dX7_ticks_125 : decode cX7_ticks 125 = .ok (.iaload, 1) := by decide +kernel
theorem dX7_ticks_126 : decode cX7_ticks 126 = .ok (.iconst 1, 1) := by decide +kernel
theorem dX7_ticks_127 : decode cX7_ticks 127 = .ok (.iadd, 1) := by decide +kernel
theorem dX7_ticks_128 : decode cX7_ticks 128 = .ok (.iastore, 1) := by decide +kernel
theorem dX7_ticks_129 : decode cX7_ticks 129 = .ok (.iinc 3 1, 3) := by decide +kernel
theorem dX7_ticks_132 : decode cX7_ticks 132 = .ok (.goto (-106), 3) := by decide +kernel
theorem dX7_ticks_135 : decode cX7_ticks 135 = .ok (.iload_n 2, 1) := by decide +kernel
theorem dX7_ticks_136 : decode cX7_ticks 136 = .ok (.ireturn, 1) := by decide +kernel
set_option maxRecDepth 100000 in
theorem pq53 : Cond.selects RX7 yX7_reaches yX7_reaches ∈ pw := pw_mem (i := 53) (by decide +kernel) rfl
set_option maxRecDepth 100000 in
theorem pq54 : Cond.selects RX7 yX7_leftOf yX7_leftOf ∈ pw := pw_mem (i := 54) (by decide +kernel) rfl
set_option maxRecDepth 100000 in
theorem pq55 : Cond.selects RX7 yX7_aboveOf yX7_aboveOf ∈ pw := pw_mem (i := 55) (by decide +kernel) rfl
set_option maxRecDepth 100000 in
theorem pq1506 : Cond.methodLink RX7 346 yX7_reaches ∈ pw := pw_mem (i := 1506) (by decide +kernel) rfl
set_option maxRecDepth 100000 in
theorem pq1508 : Cond.instanceMethod yX7_reaches ∈ pw := pw_mem (i := 1508) (by decide +kernel) rfl
set_option maxRecDepth 100000 in
theorem pq1509 : Cond.code yX7_reaches cX7_reaches 5 (some .boolean) ∈ pw := pw_mem (i := 1509) (by rfl) rfl
set_option maxRecDepth 100000 in
theorem pq1510 : Cond.methodLink RX7 349 yX7_leftOf ∈ pw := pw_mem (i := 1510) (by decide +kernel) rfl
set_option maxRecDepth 100000 in
theorem pq1512 : Cond.instanceMethod yX7_leftOf ∈ pw := pw_mem (i := 1512) (by decide +kernel) rfl
set_option maxRecDepth 100000 in
theorem pq1513 : Cond.code yX7_leftOf cX7_leftOf 3 (some .int) ∈ pw := pw_mem (i := 1513) (by rfl) rfl
set_option maxRecDepth 100000 in
theorem pq1514 : Cond.methodLink RX7 352 yX7_aboveOf ∈ pw := pw_mem (i := 1514) (by decide +kernel) rfl
set_option maxRecDepth 100000 in
theorem pq1516 : Cond.instanceMethod yX7_aboveOf ∈ pw := pw_mem (i := 1516) (by decide +kernel) rfl
set_option maxRecDepth 100000 in
theorem pq1517 : Cond.code yX7_aboveOf cX7_aboveOf 3 (some .int) ∈ pw := pw_mem (i := 1517) (by rfl) rfl
set_option maxHeartbeats 4000000 in
set_option maxRecDepth 100000 in
theorem s_X7_ticks (l : Launch) (dC : Nat → ClassId) (dI : Nat → Nat → Nat) (cs : Nat → ClassId) (L : List Nat) (K G : Nat → Nat) (Q : Nat → Nat → Option Nat) (hQ : Sv L K G Q) (x0 m0 : Nat) (tx : GT) (tm : GT × Int) (sz : Nat) (I : Nat → Nat → Int32) (J : Nat → Nat → Int64) (hI : Iv L K x0 m0 tx tm I) (p0 : Nat) (hLp0 : p0 ∈ L) (hKp0 : K p0 = 7) (p1 : Int32) : Met l yX7_ticks (.code yX7_ticks cX7_ticks 7 (some .int) :: pw) ({ frames := 8, cells := 0, slots := 0, locals := 199 }) (sP (dC, dI) cs [.ref p0, .int p1] sz L K I J Q) (va_Qi (fun (r : Int32) (_ : Unit) => (∀ σ : Sx, okF σ.1 → cmA Q I J p0 σ → r.toInt = (tkA σ p1).1)) (fun _ t => sB (dC, dI) cs L K Q (fun I1 J1 => Iv L K x0 m0 tx tm I1 ∧ (∀ b, K b = 0 ∨ K b = 1 ∨ K b = 3 ∨ K b = 6 → I1 b = I b) ∧ (∀ σ : Sx, okF σ.1 → cmA Q I J p0 σ → cmA Q I1 J1 p0 (tkA σ p1).2) ∧ (∀ b, ¬ (K b = 22 ∨ K b = 25 ∨ K b = 33) → J1 b = J b)) t) (fun q => q ∈ L ∨ sz ≤ q)) 0 0 (fun q => q ∈ L ∨ sz ≤ q) := by
  refine Met.ofW (cc := cX7_ticks) (maxL := 7) (ret := (some .int)) (by decide +kernel) rfl ?_
  intro p e s m args below meth c s₁ B hml hv
  obtain ⟨rfl, hsz, hP, hK, hD0, hN⟩ := hv
  have hx := B.exec
  have hb := B.bytes
  have hr := B.returns
  have hts := fun w (h : w ∈ pw) => atoms_spec (ws := Cond.code yX7_ticks cX7_ticks 7 (some .int) :: pw) B.pre w (List.mem_cons_of_mem _ h)
  have hown : s.vm.findClass RX7 = some m.cls := findClass_of_methodNamed B.named
  have hlocks := B.notSynchronized
  subst hsz
  have hBB : 999 ≤ tm.2 ∧ tm.2 ≤ 6000000 := hI.2.2.2.2.1
  have dn_I : (∀ b, K b = 0 ∨ K b = 1 ∨ K b = 3 ∨ K b = 6 → I b = I b) := fun _ _ => rfl
  have dj_J : (∀ b, ¬ (K b = 22 ∨ K b = 25 ∨ K b = 33) → J b = J b) := fun _ _ => rfl
  obtain ⟨A, hAe⟩ : ∃ A : Nat → Prop, A = (fun q => q ∈ L ∨ s.heap.size ≤ q) := ⟨_, rfl⟩
  rw [← hAe]
  have hAL : ∀ q, q ∈ L → A q := fun q h => by rw [hAe]; exact Or.inl h
  have hA : ∀ q, s.heap.size ≤ q → A q := fun q h => by rw [hAe]; exact Or.inr h
  have hD : ∀ F, va_D A (va_pl L F) := fun F => (hD0 F).weaken (fun k q hk _ => hAL _ (pl_mem hk))
  obtain ⟨H, hHe⟩ : ∃ H : Heap, H = s.heap := ⟨_, rfl⟩
  have hS : va_S A s.heap H [] := by rw [hHe]; exact va_S.rf
  rw [← hHe] at hP
  have hl := lv_entry ([.ref p0, .int p1]) (n := 7) (Nat.le_of_ble_eq_true rfl)
  rw [lg_entry_eq]
  generalize (lg_sl ([.ref p0, .int p1]) ++ List.replicate (7 - (lg_sl ([.ref p0, .int p1])).length) Slot.unset).toArray = ls at hl ⊢
  have hl : lv_has ls 7 [(0, .ref p0), (1, .int p1)] := hl
  rw [← hHe]
  refine namedW (fun R Qz hR hQz => ?_)
  refine lv_iload_n hx hb dX7_ticks_0 rfl (lv_at hl 1 rfl) ?_
  refine lv_i2l hx hb dX7_ticks_1 rfl ?_
  refine lv_topl (fun z1 ez1 => ?_)
  have bz1 := tq_i2l (k := p1.toInt) ez1 rfl
  refine lv_lconst (v := 1) hx hb dX7_ticks_2 (by decide +kernel) ?_
  refine lv_ldc2 hx hb hown (hts _ pq1359) dX7_ticks_3 ?_
  refine ro_i (va_runS (As := [.long z1, .long 1, .long 20]) (rest := []) ⟨hx, hb, hml, hown, hts⟩ (s_X7_in l dC dI cs L K Q H.size I J z1 1 20) (va_cwS 3 hts (gS pq1234 pq1235 pq81 pq1236) rfl rfl rfl (by decide +kernel) ⟨(by rw [hR]; exact (Nat.le_of_ble_eq_true rfl)), (by rw [hR]; exact (Nat.le_of_ble_eq_true rfl))⟩) (sP_S hP hD hK hN) rfl rfl hl.1 rfl (lv_room (Nat.le_of_ble_eq_true rfl)) dX7_ticks_6 ⟨(by rw [hR]; exact (Nat.le_of_ble_eq_true rfl)), (by rw [hR]; exact (Nat.le_of_ble_eq_true rfl))⟩) hS hP (fun z6 H locs hz6 hP hS => ?_)
  have csl6_1 : (1 : Int64).toInt = 1 := by decide +kernel
  have csl6_20 : (20 : Int64).toInt = 20 := by decide +kernel
  obtain ⟨bz6, imz6, xpz6⟩ := hz6
  refine lv_if_ne (tgt := 14) hx hb dX7_ticks_9 (by decide) (fun c9 => ?_) (fun c9 => ?_)
  · have t9 := tq_ne (k := z6.toInt) (q := (0)) c9 rfl (by decide +kernel)
    have i9 := imz6 t9
    refine lv_aload_n hx hb dX7_ticks_14 rfl (lv_at hl 0 rfl) ?_
    refine sw_v (Z := (fun I1 J1 => Iv L K x0 m0 tx tm I1 ∧ (∀ b, ¬ (K b = 7 ∨ K b = 19 ∨ K b = 30) → I1 b = I b) ∧ (∀ b, K b = 0 ∨ K b = 1 ∨ K b = 3 ∨ K b = 6 → I1 b = I b) ∧ (∀ σ : Sx, cmA Q I J p0 σ → cmA Q I1 J1 p0 (rem σ)) ∧ (∀ b, ¬ (K b = 22 ∨ K b = 33) → J1 b = J b))) (va_runV (As := []) (rest := []) ⟨hx, hb, hml, hown, hts⟩ (s_X7_keepsPast l dC dI cs L K G Q hQ x0 m0 tx tm H.size I J hI p0 hLp0 hKp0) (cwV 0 hts (gV pq1324 pq1326 pq26 pq81 pq1327) rfl rfl rfl (by decide +kernel) ⟨(by rw [hR]; exact (Nat.le_of_ble_eq_true rfl)), (by rw [hR]; exact (Nat.le_of_ble_eq_true rfl))⟩) (sP_V hP hD hK hN hLp0 hKp0 rfl rfl) rfl rfl hl.1 rfl (lv_room (Nat.le_of_ble_eq_true rfl)) dX7_ticks_15 ⟨(by rw [hR]; exact (Nat.le_of_ble_eq_true rfl)), (by rw [hR]; exact (Nat.le_of_ble_eq_true rfl))⟩) hS hAL hA (fun Iz15 Jz15 H locs hz15 hIz15 hP hS => ?_)
    obtain ⟨hIz15, frc15, dnc15, jz15, djc15⟩ := hIz15
    have dj_Jz15 : (∀ b, ¬ (K b = 22 ∨ K b = 25 ∨ K b = 33) → Jz15 b = J b) := fun b hc => (djc15 b (fun z => hc (by omega))).trans (dj_J b hc)
    have dn_Iz15 : (∀ b, K b = 0 ∨ K b = 1 ∨ K b = 3 ∨ K b = 6 → Iz15 b = I b) := fun b hc => (dnc15 b (by omega)).trans (dn_I b hc)
    refine lv_aload_n hx hb dX7_ticks_18 rfl (lv_at hl 0 rfl) ?_
    refine sw_v (Z := (fun I1 J1 => Iv L K x0 m0 tx tm I1 ∧ I1 = Iz15 ∧ (∀ c : Fx, okF c → rI Q Iz15 p0 c → rJ Q Jz15 p0 c → ldA Q J1 p0 c) ∧ (∀ b, ¬ (K b = 25) → J1 b = Jz15 b))) (va_runV (As := []) (rest := []) ⟨hx, hb, hml, hown, hts⟩ (s_X7_laysAll l dC dI cs L K G Q hQ x0 m0 tx tm H.size Iz15 Jz15 hIz15 p0 hLp0 hKp0) (cwV 0 hts (gV pq1427 pq1429 pq40 pq81 pq1430) rfl rfl rfl (by decide +kernel) ⟨(by rw [hR]; exact (Nat.le_of_ble_eq_true rfl)), (by rw [hR]; exact (Nat.le_of_ble_eq_true rfl))⟩) (sP_V hP hD hK hN hLp0 hKp0 rfl rfl) rfl rfl hl.1 rfl (lv_room (Nat.le_of_ble_eq_true rfl)) dX7_ticks_19 ⟨(by rw [hR]; exact (Nat.le_of_ble_eq_true rfl)), (by rw [hR]; exact (Nat.le_of_ble_eq_true rfl))⟩) hS hAL hA (fun Iz19 Jz19 H locs hz19 hIz19 hP hS => ?_)
    obtain ⟨hIz19, sm19, jz19, djc19⟩ := hIz19
    have dj_Jz19 : (∀ b, ¬ (K b = 22 ∨ K b = 25 ∨ K b = 33) → Jz19 b = J b) := fun b hc => (djc19 b (fun z => hc (by omega))).trans (dj_Jz15 b hc)
    obtain rfl : Iz15 = Iz19 := sm19.symm
    have h22 : ∀ σ : Sx, okF σ.1 → cmA Q I J p0 σ → cmA Q Iz15 Jz19 p0 (σ.1, (rem σ).2) ∧ ldA Q Jz19 p0 σ.1 := fun σ ok A => by have B := jz15 σ A; rw [rem_e] at B; have l := jz19 σ.1 ok (cmA_rI (σ := (σ.1, (rem σ).2)) B) (cmA_rJ (σ := (σ.1, (rem σ).2)) B); exact ⟨cmA_fr (I1 := Iz15) (J1 := Jz19) hQ hLp0 hKp0 (fun _ _ => rfl) (fun b hb => djc19 b (by omega)) rfl B, l⟩
    refine lv_iconst (v := 0) hx hb dX7_ticks_22 (by decide +kernel) ?_
    refine lv_istore_n (lv' := [(2, .int 0), (0, .ref p0), (1, .int p1)]) hx hb dX7_ticks_23 rfl hl (by decide) rfl (fun ls hl => ?_)
    refine lv_iconst (v := 0) hx hb dX7_ticks_24 (by decide +kernel) ?_
    refine lv_istore_n (lv' := [(3, .int 0), (2, .int 0), (0, .ref p0), (1, .int p1)]) hx hb dX7_ticks_25 rfl hl (by decide) rfl (fun ls hl => ?_)
    have key26 := blocks (fun n => ∀ (v26_2 : Int32) (v26_3 : Int32) (I26 : Nat → Nat → Int32) (H : Heap) (lo : List Loc) (ls : Array Slot), (21 - v26_3.toInt).toNat = n → ((0) ≤ v26_2.toInt ∧ v26_2.toInt ≤ 2000) → ((0) ≤ v26_3.toInt ∧ v26_3.toInt ≤ 20) → Iv L K x0 m0 tx tm I26 → (∀ b, K b = 0 ∨ K b = 1 ∨ K b = 3 ∨ K b = 6 → I26 b = I b) → (0 ≤ v26_2.toInt ∧ v26_2.toInt ≤ 10 * v26_3.toInt ∧ v26_3.toInt ≤ p1.toInt) → (∀ σ : Sx, okF σ.1 → cmA Q I J p0 σ → v26_2.toInt = (tkT (σ.1.1 1).toInt.toNat v26_3.toInt.toNat (σ.1, 0)).2 ∧ cmA Q I26 Jz19 p0 (u2 (tkT (σ.1.1 1).toInt.toNat v26_3.toInt.toNat (σ.1, 0)).1 (σ.1.1 2 + v26_3), (rem σ).2)) → va_P (dC, dI) vwCl (Wd cs L K I26 Jz19 Q) H → va_S A s.heap H lo → lv_has ls 7 [(0, .ref p0), (1, .int p1), (2, .int v26_2), (3, .int v26_3)] → W p l e R s m (([.ref p0, .int p1] : List Value).toArray) below meth c H lo 0 0 Qz (F0 m 26 ls [])) (by
      intro n ih26
      intro v26_2 v26_3 I26 H lo ls hmu26 bv26_2 bv26_3 hI26 dn_I26 hb26 ht26 hP hS hl
      refine lv_iload_n hx hb dX7_ticks_26 rfl (lv_at hl 3 rfl) ?_
      refine lv_iload_n hx hb dX7_ticks_27 rfl (lv_at hl 1 rfl) ?_
      refine lv_icmp_ge (tgt := 135) hx hb dX7_ticks_28 (by decide) (fun c28 => ?_) (fun c28 => ?_)
      · have t28 := tq_le (k := p1.toInt) (q := v26_3.toInt) c28 rfl rfl
        refine lv_iload_n hx hb dX7_ticks_135 rfl (lv_at hl 2 rfl) ?_
        subst hR; subst hQz
        exact W.iret (v := v26_2) hx hb hr (fun t ht hW => ⟨⟨v26_2, (), rfl, (fun σ ok A => by rw [tk_y ⟨by omega, by omega⟩]; have e := (ht26 σ ok A).1; rw [show v26_3.toInt.toNat = p1.toInt.toNat by omega] at e; exact e), ⟨I26, Jz19, ⟨hI26, dn_I26, (fun σ ok A => by rw [tk_y ⟨by omega, by omega⟩]; have B := (ht26 σ ok A).2; rw [show v26_3.toInt.toNat = p1.toInt.toNat by omega, show v26_3 = p1 from Int32.toInt_inj.mp (by omega)] at B; exact B), dj_Jz19⟩, by rw [ht]; exact hP⟩⟩, hS.F ht⟩) hS.2.2 dX7_ticks_136
      · have t28 := tq_nle (k := p1.toInt) (q := v26_3.toInt) c28 rfl rfl
        refine lv_iconst (v := 0) hx hb dX7_ticks_31 (by decide +kernel) ?_
        refine lv_istore (lv' := [(4, .int 0), (0, .ref p0), (1, .int p1), (2, .int v26_2), (3, .int v26_3)]) hx hb dX7_ticks_32 hl (by decide) rfl (fun ls hl => ?_)
        have key34 := blocks (fun n => ∀ (v34_2 : Int32) (v34_4 : Int32) (I34 : Nat → Nat → Int32) (H : Heap) (lo : List Loc) (ls : Array Slot), (11 - v34_4.toInt).toNat = n → ((0) ≤ v34_2.toInt ∧ v34_2.toInt ≤ 2000) → ((0) ≤ v34_4.toInt ∧ v34_4.toInt ≤ 10) → Iv L K x0 m0 tx tm I34 → (∀ b, K b = 0 ∨ K b = 1 ∨ K b = 3 ∨ K b = 6 → I34 b = I b) → (0 ≤ v34_2.toInt ∧ v34_2.toInt ≤ 10 * v26_3.toInt + v34_4.toInt) → (∀ σ : Sx, okF σ.1 → cmA Q I J p0 σ → v34_4.toInt.toNat ≤ (σ.1.1 1).toInt.toNat ∧ v34_2.toInt = (tkR v34_4.toInt.toNat (tkT (σ.1.1 1).toInt.toNat v26_3.toInt.toNat (σ.1, 0))).2 ∧ cmA Q I34 Jz19 p0 (u2 (tkR v34_4.toInt.toNat (tkT (σ.1.1 1).toInt.toNat v26_3.toInt.toNat (σ.1, 0))).1 (σ.1.1 2 + v26_3), (rem σ).2)) → va_P (dC, dI) vwCl (Wd cs L K I34 Jz19 Q) H → va_S A s.heap H lo → lv_has ls 7 [(0, .ref p0), (1, .int p1), (2, .int v34_2), (3, .int v26_3), (4, .int v34_4)] → W p l e R s m (([.ref p0, .int p1] : List Value).toArray) below meth c H lo 0 0 Qz (F0 m 34 ls [])) (by
          intro n ih34
          intro v34_2 v34_4 I34 H lo ls hmu34 bv34_2 bv34_4 hI34 dn_I34 hb34 ht34 hP hS hl
          refine lv_iload hx hb dX7_ticks_34 (lv_at hl 4 rfl) ?_
          refine lv_aload_n hx hb dX7_ticks_36 rfl (lv_at hl 0 rfl) ?_
          obtain ⟨y37, ey37, hLy37, hKy37⟩ := oQ_7_0 (Sv_at hQ hLp0 hKp0)
          refine p_get (v := .ref y37) hx hb hts inX7 hown hK hP hLp0 hKp0 rfl rfl 0 (by decide) (hts _ pq1115) (congrArg (fun q => some (va_rf q)) ey37) dX7_ticks_37 ?_
          refine lv_iconst (v := 1) hx hb dX7_ticks_40 (by decide +kernel) ?_
          refine p_iald hx hb hK hP 8 hLy37 hKy37 rfl rfl (in_d (by decide +kernel)) dX7_ticks_41 ?_
          refine lv_topi (fun z41 ez41 => ?_)
          have bz41 := rng1 (oR_18 (i := (1 : Int32)) (k := (1)) (by decide +kernel) (Iv_at hI34 hLy37 hKy37))
          rw [← ez41] at bz41
          refine lv_icmp_ge (tgt := 119) hx hb dX7_ticks_42 (by decide) (fun c42 => ?_) (fun c42 => ?_)
          · have t42 := tq_le (k := z41.toInt) (q := v34_4.toInt) c42 rfl rfl
            refine lv_aload_n hx hb dX7_ticks_119 rfl (lv_at hl 0 rfl) ?_
            refine p_get (v := .ref y37) hx hb hts inX7 hown hK hP hLp0 hKp0 rfl rfl 0 (by decide) (hts _ pq1115) (congrArg (fun q => some (va_rf q)) ey37) dX7_ticks_120 ?_
            refine lv_iconst (v := 2) hx hb dX7_ticks_123 (by decide +kernel) ?_
            refine lv_dup2_11 hx hb dX7_ticks_124 rfl rfl ?_
            refine p_iald hx hb hK hP 8 hLy37 hKy37 rfl rfl (in_d (by decide +kernel)) dX7_ticks_125 ?_
            refine lv_topi (fun z125 ez125 => ?_)
            refine lv_iconst (v := 1) hx hb dX7_ticks_126 (by decide +kernel) ?_
            refine lv_iadd hx hb dX7_ticks_127 ?_
            refine lv_topi (fun z127 ez127 => ?_)
            refine p_iast hx hb hK hP hD hS 8 hLy37 hKy37 rfl (fun _ => rfl) rfl (in_d (by decide +kernel)) dX7_ticks_128 (fun H locs hP hS => ?_)
            have rg128z127 := fb_rng z127
            obtain ⟨Iz128, hP, hIz128, qIz128⟩ : ∃ Iz128, va_P (dC, dI) vwCl (Wd cs L K Iz128 Jz19 Q) H ∧ Iv L K x0 m0 tx tm Iz128 ∧ Iz128 = va_up I34 y37 (upd (I34 y37) (2 : Int32).toNatClampNeg z127) := ⟨_, hP, Iv_put hI34 hKy37 (oU_18 (i := (2 : Int32)) (k := (2)) (by decide +kernel) (Iv_at hI34 hLy37 hKy37) rng_two) (Or.inl (by decide)) (Or.inl (by decide)), rfl⟩
            have dn_Iz128 : (∀ b, K b = 0 ∨ K b = 1 ∨ K b = 3 ∨ K b = 6 → Iz128 b = I b) := fun b hc => (congrFun qIz128 b).trans ((va_up_ne _ _ (fun z => by have q := hKy37; rw [← z] at q; omega)).trans (dn_I34 b hc))
            obtain ⟨z129, ez129⟩ : ∃ y : Int32, y = v26_3 + 1 := ⟨_, rfl⟩
            refine lv_iinc (v := z129) (lv' := [(3, .int z129), (0, .ref p0), (1, .int p1), (2, .int v34_2), (4, .int v34_4)]) hx hb dX7_ticks_129 hl (k := 3) rfl (by rw [ez129]; rfl) (by decide) rfl (fun ls hl => ?_)
            have bz129 := tq_add (k := v26_3.toInt) (q := 1) ez129 rfl (by decide +kernel) (by omega) (by omega)
            refine lv_goto (tgt := 26) hx hb dX7_ticks_132 (by decide) ?_
            exact ih26 _ (by omega) v34_2 z129 Iz128 _ _ _ rfl ⟨by omega, by omega⟩ ⟨by omega, by omega⟩ hIz128 dn_Iz128 (by omega) (fun σ ok A0 => by obtain ⟨l, e, A⟩ := ht34 σ ok A0; have en := tk7_en A (z := z41) (by rw [ez41, show a0 Q p0 0 = y37 from gd_of ey37]; rfl); have ej : v34_4.toInt.toNat = (σ.1.1 1).toInt.toNat := (by rw [← en] at l ⊢; omega); have e2 := tk7_2 A (z := z125) (by rw [ez125, show a0 Q p0 0 = y37 from gd_of ey37]; rfl); have B := tk7_end (I1 := Iz128) (w := z127) hQ hLp0 hKp0 (by rw [show a0 Q p0 0 = y37 from gd_of ey37, qIz128, va_up_self]; rfl) (fun b hb => by rw [qIz128, va_up_ne _ _ (fun z => hb (by rw [z]; exact hKy37))]) A; rw [show z129.toInt.toNat = v26_3.toInt.toNat + 1 by omega, tkT_s]; rw [ej] at e B; rw [ez127, e2, i32_add1 ez129] at B; exact ⟨e, B⟩) hP hS (lv_sub hl [1, 2, 3, 0] rfl)
          · have t42 := tq_nle (k := z41.toInt) (q := v34_4.toInt) c42 rfl rfl
            refine lv_aload_n hx hb dX7_ticks_45 rfl (lv_at hl 0 rfl) ?_
            refine lv_iload hx hb dX7_ticks_46 (lv_at hl 4 rfl) ?_
            refine lv_bipush (v := 6) hx hb dX7_ticks_48 (by decide +kernel) ?_
            refine ro_i (va_runV (As := [.int v34_4, .int 6]) (rest := []) ⟨hx, hb, hml, hown, hts⟩ (s_X7_of l dC dI cs L K G Q hQ x0 m0 tx tm H.size I34 Jz19 hI34 p0 hLp0 hKp0 v34_4 ⟨by omega, by omega⟩ 6 ⟨by decide +kernel, by decide +kernel⟩) (cwV 2 hts (gV pq1320 pq1322 pq25 pq81 pq1323) rfl rfl rfl (by decide +kernel) ⟨(by rw [hR]; exact (Nat.le_of_ble_eq_true rfl)), (by rw [hR]; exact (Nat.le_of_ble_eq_true rfl))⟩) (sP_V hP hD hK hN hLp0 hKp0 rfl rfl) rfl rfl hl.1 rfl (lv_room (Nat.le_of_ble_eq_true rfl)) dX7_ticks_50 ⟨(by rw [hR]; exact (Nat.le_of_ble_eq_true rfl)), (by rw [hR]; exact (Nat.le_of_ble_eq_true rfl))⟩) hS hP (fun z50 H locs hz50 hP hS => ?_)
            have cst50_6 : (6 : Int32).toInt = 6 := by decide +kernel
            obtain ⟨fez50, xpz50⟩ := hz50
            have bz50 := xpz50.2.2.2.1 rfl
            refine lv_istore (lv' := [(5, .int z50), (0, .ref p0), (1, .int p1), (2, .int v34_2), (3, .int v26_3), (4, .int v34_4)]) hx hb dX7_ticks_53 hl (by decide) rfl (fun ls hl => ?_)
            refine lv_aload_n hx hb dX7_ticks_55 rfl (lv_at hl 1 rfl) ?_
            refine lv_iload hx hb dX7_ticks_56 (lv_at hl 5 rfl) ?_
            refine lv_bipush (v := 7) hx hb dX7_ticks_58 (by decide +kernel) ?_
            refine ro_i (va_runV (As := [.int v34_4, .int 7]) (rest := []) ⟨hx, hb, hml, hown, hts⟩ (s_X7_of l dC dI cs L K G Q hQ x0 m0 tx tm H.size I34 Jz19 hI34 p0 hLp0 hKp0 v34_4 ⟨by omega, by omega⟩ 7 ⟨by decide +kernel, by decide +kernel⟩) (cwV 2 hts (gV pq1320 pq1322 pq25 pq81 pq1323) rfl rfl rfl (by decide +kernel) ⟨(by rw [hR]; exact (Nat.le_of_ble_eq_true rfl)), (by rw [hR]; exact (Nat.le_of_ble_eq_true rfl))⟩) (sP_V hP hD hK hN hLp0 hKp0 rfl rfl) rfl rfl hl.1 rfl (lv_room (Nat.le_of_ble_eq_true rfl)) dX7_ticks_60 ⟨(by rw [hR]; exact (Nat.le_of_ble_eq_true rfl)), (by rw [hR]; exact (Nat.le_of_ble_eq_true rfl))⟩) hS hP (fun z60 H locs hz60 hP hS => ?_)
            have cst60_7 : (7 : Int32).toInt = 7 := by decide +kernel
            obtain ⟨fez60, xpz60⟩ := hz60
            have bz60 := xpz60.2.2.2.2 rfl
            refine lv_istore (lv' := [(6, .int z60), (5, .int z50), (0, .ref p0), (1, .int p1), (2, .int v34_2), (3, .int v26_3), (4, .int v34_4)]) hx hb dX7_ticks_63 hl (by decide) rfl (fun ls hl => ?_)
            refine lv_aload_n hx hb dX7_ticks_65 rfl (lv_at hl 2 rfl) ?_
            refine lv_iload hx hb dX7_ticks_66 (lv_at hl 6 rfl) ?_
            refine lv_iload hx hb dX7_ticks_68 (lv_at hl 1 rfl) ?_
            refine lv_iload hx hb dX7_ticks_70 (lv_at hl 0 rfl) ?_
            refine sw_i (Z := (fun I1 J1 => Iv L K x0 m0 tx tm I1 ∧ (∀ b, ¬ (K b = 7 ∨ K b = 18) → I1 b = I34 b) ∧ I1 p0 11 = I34 p0 11 ∧ (∀ b, K b = 0 ∨ K b = 1 ∨ K b = 3 ∨ K b = 6 → I1 b = I34 b) ∧ (∀ σ : Sx, okF σ.1 → cmA Q I34 Jz19 p0 σ → ldA Q Jz19 p0 σ.1 → v34_4.toInt.toNat < (σ.1.1 1).toInt.toNat → cmA Q I1 J1 p0 (slC σ.1 v34_4.toInt.toNat z50.toInt z60.toInt, σ.2)) ∧ J1 = Jz19)) (va_runV (As := [.int v34_4, .int z50, .int z60]) (rest := []) ⟨hx, hb, hml, hown, hts⟩ (s_X7_slidesNow l dC dI cs L K G Q hQ x0 m0 tx tm H.size I34 Jz19 hI34 p0 hLp0 hKp0 v34_4 ⟨by omega, by omega⟩ z50 ⟨by omega, by omega⟩ z60 ⟨by omega, by omega⟩) (cwV 3 hts (gV pq1498 pq1500 pq52 pq81 pq1501) rfl rfl rfl (by decide +kernel) ⟨(by rw [hR]; exact (Nat.le_of_ble_eq_true rfl)), (by rw [hR]; exact (Nat.le_of_ble_eq_true rfl))⟩) (sP_V hP hD hK hN hLp0 hKp0 rfl rfl) rfl rfl hl.1 rfl (lv_room (Nat.le_of_ble_eq_true rfl)) dX7_ticks_72 ⟨(by rw [hR]; exact (Nat.le_of_ble_eq_true rfl)), (by rw [hR]; exact (Nat.le_of_ble_eq_true rfl))⟩) hS hAL hA (fun z72 Iz72 Jz72 H locs hz72 hIz72 hP hS => ?_)
            obtain ⟨hIz72, frc72, kc72_0_11, dnc72, jz72, djc72⟩ := hIz72
            obtain rfl : Jz19 = Jz72 := djc72.symm
            have dn_Iz72 : (∀ b, K b = 0 ∨ K b = 1 ∨ K b = 3 ∨ K b = 6 → Iz72 b = I b) := fun b hc => (dnc72 b (by omega)).trans (dn_I34 b hc)
            obtain ⟨bz72, xpz72⟩ := hz72
            refine lv_iload hx hb dX7_ticks_75 (lv_at hl 1 rfl) ?_
            refine lv_iload hx hb dX7_ticks_77 (lv_at hl 0 rfl) ?_
            refine ro_i (va_runS (As := [.int z50, .int z60]) (rest := [.int z72]) ⟨hx, hb, hml, hown, hts⟩ (s_X7_steps l dC dI cs L K G Q hQ x0 m0 tx tm H.size Iz72 Jz19 hIz72 z50 ⟨by omega, by omega⟩ z60 ⟨by omega, by omega⟩) (va_cwS 2 hts (gS pq1439 pq1440 pq81 pq1441) rfl rfl rfl (by decide +kernel) ⟨(by rw [hR]; exact (Nat.le_of_ble_eq_true rfl)), (by rw [hR]; exact (Nat.le_of_ble_eq_true rfl))⟩) (sP_S hP hD hK hN) rfl rfl hl.1 rfl (lv_room (Nat.le_of_ble_eq_true rfl)) dX7_ticks_79 ⟨(by rw [hR]; exact (Nat.le_of_ble_eq_true rfl)), (by rw [hR]; exact (Nat.le_of_ble_eq_true rfl))⟩) hS hP (fun z79 H locs hz79 hP hS => ?_)
            obtain ⟨bz79, fez79⟩ := hz79
            have h82 : ∀ σ : Sx, okF σ.1 → cmA Q I J p0 σ → v34_4.toInt.toNat < (σ.1.1 1).toInt.toNat ∧ v34_2.toInt = (tkR v34_4.toInt.toNat (tkT (σ.1.1 1).toInt.toNat v26_3.toInt.toNat (σ.1, 0))).2 ∧ z50 = vX (tkR v34_4.toInt.toNat (tkT (σ.1.1 1).toInt.toNat v26_3.toInt.toNat (σ.1, 0))).1 v34_4.toInt.toNat ∧ z60 = vY (tkR v34_4.toInt.toNat (tkT (σ.1.1 1).toInt.toNat v26_3.toInt.toNat (σ.1, 0))).1 v34_4.toInt.toNat ∧ z72.toInt = slN (tkR v34_4.toInt.toNat (tkT (σ.1.1 1).toInt.toNat v26_3.toInt.toNat (σ.1, 0))).1 v34_4.toInt.toNat (vX (tkR v34_4.toInt.toNat (tkT (σ.1.1 1).toInt.toNat v26_3.toInt.toNat (σ.1, 0))).1 v34_4.toInt.toNat).toInt (vY (tkR v34_4.toInt.toNat (tkT (σ.1.1 1).toInt.toNat v26_3.toInt.toNat (σ.1, 0))).1 v34_4.toInt.toNat).toInt ∧ z79.toInt = stI (vX (tkR v34_4.toInt.toNat (tkT (σ.1.1 1).toInt.toNat v26_3.toInt.toNat (σ.1, 0))).1 v34_4.toInt.toNat).toInt (vY (tkR v34_4.toInt.toNat (tkT (σ.1.1 1).toInt.toNat v26_3.toInt.toNat (σ.1, 0))).1 v34_4.toInt.toNat).toInt ∧ cmA Q Iz72 Jz19 p0 (u2 (slC (tkR v34_4.toInt.toNat (tkT (σ.1.1 1).toInt.toNat v26_3.toInt.toNat (σ.1, 0))).1 v34_4.toInt.toNat (vX (tkR v34_4.toInt.toNat (tkT (σ.1.1 1).toInt.toNat v26_3.toInt.toNat (σ.1, 0))).1 v34_4.toInt.toNat).toInt (vY (tkR v34_4.toInt.toNat (tkT (σ.1.1 1).toInt.toNat v26_3.toInt.toNat (σ.1, 0))).1 v34_4.toInt.toNat).toInt) (σ.1.1 2 + v26_3), (rem σ).2) := fun σ ok A0 => by obtain ⟨l, e, A⟩ := ht34 σ ok A0; have en := tk7_en A (z := z41) (by rw [ez41, show a0 Q p0 0 = y37 from gd_of ey37]; rfl); have hj : v34_4.toInt.toNat < (σ.1.1 1).toInt.toNat := (by rw [← en]; omega); have o := tkRT_ok ok (k := v26_3.toInt.toNat) (j := v34_4.toInt.toNat) (by omega); have W := tk_82 o.1 (tk_nn hj) A (ldA_sh (shE_t o.2 u2_shE) (h22 σ ok A0).2) (show z50 = I34 (a0 Q p0 0) (19 + 8 * v34_4.toInt.toNat + 6) from fez50) (show z60 = I34 (a0 Q p0 0) (19 + 8 * v34_4.toInt.toNat + 7) from fez60) xpz72 jz72; exact ⟨hj, e, W.1, W.2.1, W.2.2.1, by rw [← W.1, ← W.2.1, show z79 = stF z50 z60 from fez79]; exact stF_i ⟨by omega, by omega⟩ ⟨by omega, by omega⟩, W.2.2.2⟩
            have j113 : ∀ (v113_2 : Int32) (I113 : Nat → Nat → Int32) (H : Heap) (lo : List Loc) (ls : Array Slot), ((0) ≤ v113_2.toInt ∧ v113_2.toInt ≤ 2000) → Iv L K x0 m0 tx tm I113 → (∀ b, K b = 0 ∨ K b = 1 ∨ K b = 3 ∨ K b = 6 → I113 b = I b) → (0 ≤ v113_2.toInt ∧ v113_2.toInt ≤ 10 * v26_3.toInt + v34_4.toInt + 1) → (∀ σ : Sx, okF σ.1 → cmA Q I J p0 σ → v34_4.toInt.toNat < (σ.1.1 1).toInt.toNat ∧ v113_2.toInt = (tkR (v34_4.toInt.toNat + 1) (tkT (σ.1.1 1).toInt.toNat v26_3.toInt.toNat (σ.1, 0))).2 ∧ cmA Q I113 Jz19 p0 (u2 (tkR (v34_4.toInt.toNat + 1) (tkT (σ.1.1 1).toInt.toNat v26_3.toInt.toNat (σ.1, 0))).1 (σ.1.1 2 + v26_3), (rem σ).2)) → va_P (dC, dI) vwCl (Wd cs L K I113 Jz19 Q) H → va_S A s.heap H lo → lv_has ls 7 [(0, .ref p0), (1, .int p1), (2, .int v113_2), (3, .int v26_3), (4, .int v34_4), (5, .int z50), (6, .int z60)] → W p l e R s m (([.ref p0, .int p1] : List Value).toArray) below meth c H lo 0 0 Qz (F0 m 113 ls []) := by
              intro v113_2 I113 H lo ls bv113_2 hI113 dn_I113 hb113 ht113 hP hS hl
              obtain ⟨z113, ez113⟩ : ∃ y : Int32, y = v34_4 + 1 := ⟨_, rfl⟩
              refine lv_iinc (v := z113) (lv' := [(4, .int z113), (0, .ref p0), (1, .int p1), (2, .int v113_2), (3, .int v26_3), (5, .int z50), (6, .int z60)]) hx hb dX7_ticks_113 hl (k := 4) rfl (by rw [ez113]; rfl) (by decide) rfl (fun ls hl => ?_)
              have bz113 := tq_add (k := v34_4.toInt) (q := 1) ez113 rfl (by decide +kernel) (by omega) (by omega)
              refine lv_goto (tgt := 34) hx hb dX7_ticks_116 (by decide) ?_
              exact ih34 _ (by omega) v113_2 z113 I113 _ _ _ rfl ⟨by omega, by omega⟩ ⟨by omega, by omega⟩ hI113 dn_I113 (by omega) (fun σ ok A0 => by obtain ⟨l, e, A⟩ := ht113 σ ok A0; rw [show z113.toInt.toNat = v34_4.toInt.toNat + 1 by omega]; exact ⟨by omega, e, A⟩) hP hS (lv_sub hl [1, 2, 3, 4, 0] rfl)
            refine lv_icmp_ne (tgt := 88) hx hb dX7_ticks_82 (by decide) (fun c82 => ?_) (fun c82 => ?_)
            · have t82 := tq_ne (k := z72.toInt) (q := z79.toInt) c82 rfl rfl
              obtain ⟨z88, ez88⟩ : ∃ y : Int32, y = v34_2 + 1 := ⟨_, rfl⟩
              refine lv_iinc (v := z88) (lv' := [(2, .int z88), (6, .int z60), (5, .int z50), (0, .ref p0), (1, .int p1), (3, .int v26_3), (4, .int v34_4)]) hx hb dX7_ticks_88 hl (k := 4) rfl (by rw [ez88]; rfl) (by decide) rfl (fun ls hl => ?_)
              have bz88 := tq_add (k := v34_2.toInt) (q := 1) ez88 rfl (by decide +kernel) (by omega) (by omega)
              refine lv_aload_n hx hb dX7_ticks_91 rfl (lv_at hl 3 rfl) ?_
              refine lv_iload hx hb dX7_ticks_92 (lv_at hl 6 rfl) ?_
              refine lv_bipush (v := 6) hx hb dX7_ticks_94 (by decide +kernel) ?_
              refine lv_iload hx hb dX7_ticks_96 (lv_at hl 2 rfl) ?_
              refine lv_ineg hx hb dX7_ticks_98 ?_
              refine lv_topi (fun z98 ez98 => ?_)
              have bz98 := tq_neg (k := z50.toInt) ez98 rfl (by omega) (by omega)
              refine sw_v (Z := (fun I1 J1 => Iv L K x0 m0 tx tm I1 ∧ (∀ b, ¬ (K b = 18) → I1 b = Iz72 b) ∧ (I1 ((Q p0 0).getD 0) = upd (Iz72 ((Q p0 0).getD 0)) (19 + 8 * v34_4.toInt.toNat + (6 : Int32).toInt.toNat) z98) ∧ (∀ b, K b = 0 ∨ K b = 1 ∨ K b = 3 ∨ K b = 6 → I1 b = Iz72 b) ∧ J1 = Jz19)) (va_runV (As := [.int v34_4, .int 6, .int z98]) (rest := []) ⟨hx, hb, hml, hown, hts⟩ (s_X7_sets l dC dI cs L K G Q hQ x0 m0 tx tm H.size Iz72 Jz19 hIz72 p0 hLp0 hKp0 v34_4 ⟨by omega, by omega⟩ 6 ⟨by decide +kernel, by decide +kernel⟩ z98 (rng_6 ⟨by decide +kernel, by decide +kernel⟩ (by omega) ⟨by omega, by omega⟩)) (cwV 3 hts (gV pq1336 pq1338 pq29 pq81 pq1339) rfl rfl rfl (by decide +kernel) ⟨(by rw [hR]; exact (Nat.le_of_ble_eq_true rfl)), (by rw [hR]; exact (Nat.le_of_ble_eq_true rfl))⟩) (sP_V hP hD hK hN hLp0 hKp0 rfl rfl) rfl rfl hl.1 rfl (lv_room (Nat.le_of_ble_eq_true rfl)) dX7_ticks_99 ⟨(by rw [hR]; exact (Nat.le_of_ble_eq_true rfl)), (by rw [hR]; exact (Nat.le_of_ble_eq_true rfl))⟩) hS hAL hA (fun Iz99 Jz99 H locs hz99 hIz99 hP hS => ?_)
              obtain ⟨hIz99, frc99, zp99, dnc99, djc99⟩ := hIz99
              obtain rfl : Jz19 = Jz99 := djc99.symm
              have dn_Iz99 : (∀ b, K b = 0 ∨ K b = 1 ∨ K b = 3 ∨ K b = 6 → Iz99 b = I b) := fun b hc => (dnc99 b (by omega)).trans (dn_Iz72 b hc)
              refine lv_aload_n hx hb dX7_ticks_102 rfl (lv_at hl 3 rfl) ?_
              refine lv_iload hx hb dX7_ticks_103 (lv_at hl 6 rfl) ?_
              refine lv_bipush (v := 7) hx hb dX7_ticks_105 (by decide +kernel) ?_
              refine lv_iload hx hb dX7_ticks_107 (lv_at hl 1 rfl) ?_
              refine lv_ineg hx hb dX7_ticks_109 ?_
              refine lv_topi (fun z109 ez109 => ?_)
              have bz109 := tq_neg (k := z60.toInt) ez109 rfl (by omega) (by omega)
              refine sw_v (Z := (fun I1 J1 => Iv L K x0 m0 tx tm I1 ∧ (∀ b, ¬ (K b = 18) → I1 b = Iz99 b) ∧ (I1 ((Q p0 0).getD 0) = upd (Iz99 ((Q p0 0).getD 0)) (19 + 8 * v34_4.toInt.toNat + (7 : Int32).toInt.toNat) z109) ∧ (∀ b, K b = 0 ∨ K b = 1 ∨ K b = 3 ∨ K b = 6 → I1 b = Iz99 b) ∧ J1 = Jz19)) (va_runV (As := [.int v34_4, .int 7, .int z109]) (rest := []) ⟨hx, hb, hml, hown, hts⟩ (s_X7_sets l dC dI cs L K G Q hQ x0 m0 tx tm H.size Iz99 Jz19 hIz99 p0 hLp0 hKp0 v34_4 ⟨by omega, by omega⟩ 7 ⟨by decide +kernel, by decide +kernel⟩ z109 (rng_6 ⟨by decide +kernel, by decide +kernel⟩ (by omega) ⟨by omega, by omega⟩)) (cwV 3 hts (gV pq1336 pq1338 pq29 pq81 pq1339) rfl rfl rfl (by decide +kernel) ⟨(by rw [hR]; exact (Nat.le_of_ble_eq_true rfl)), (by rw [hR]; exact (Nat.le_of_ble_eq_true rfl))⟩) (sP_V hP hD hK hN hLp0 hKp0 rfl rfl) rfl rfl hl.1 rfl (lv_room (Nat.le_of_ble_eq_true rfl)) dX7_ticks_110 ⟨(by rw [hR]; exact (Nat.le_of_ble_eq_true rfl)), (by rw [hR]; exact (Nat.le_of_ble_eq_true rfl))⟩) hS hAL hA (fun Iz110 Jz110 H locs hz110 hIz110 hP hS => ?_)
              obtain ⟨hIz110, frc110, zp110, dnc110, djc110⟩ := hIz110
              obtain rfl : Jz19 = Jz110 := djc110.symm
              have dn_Iz110 : (∀ b, K b = 0 ∨ K b = 1 ∨ K b = 3 ∨ K b = 6 → Iz110 b = I b) := fun b hc => (dnc110 b (by omega)).trans (dn_Iz99 b hc)
              exact j113 z88 Iz110 _ _ _ ⟨by omega, by omega⟩ hIz110 dn_Iz110 (by omega) (fun σ ok A0 => by obtain ⟨hj, e, a6, a7, e1, e2, A⟩ := h82 σ ok A0; have w : ¬ slN _ _ _ _ = stI _ _ := (fun q => t82 (by rw [e1, e2]; exact q)); have B := tk_neg (I1 := Iz99) (I2 := Iz110) (a := z98) (b := z109) hQ hLp0 hKp0 (by omega) A zp99 frc99 zp110 frc110; rw [tkR_s, tkB_n w]; exact ⟨hj, by show z88.toInt = (tkR _ _).2 + 1; rw [← e]; omega, by rw [ez98, ez109, a6, a7] at B; exact B⟩) hP hS (lv_sub hl [3, 4, 0, 5, 6, 2, 1] rfl)
            · have t82 := tq_eq (k := z72.toInt) (q := z79.toInt) c82 rfl rfl
              refine lv_goto (tgt := 113) hx hb dX7_ticks_85 (by decide) ?_
              exact j113 v34_2 Iz72 _ _ _ ⟨by omega, by omega⟩ hIz72 dn_Iz72 (by omega) (fun σ ok A0 => by obtain ⟨hj, e, a6, a7, e1, e2, A⟩ := h82 σ ok A0; rw [tkR_s, tkB_y (by rw [← e1, ← e2]; exact t82)]; exact ⟨hj, by show v34_2.toInt = (tkR _ _).2 + 0; rw [← e]; omega, A⟩) hP hS (lv_sub hl [2, 3, 4, 5, 6, 1, 0] rfl))
        exact key34 _ v26_2 0 I26 _ _ _ rfl ⟨by omega, by omega⟩ ⟨by decide +kernel, by decide +kernel⟩ hI26 dn_I26 (by rw [show (0 : Int32).toInt = 0 from by decide +kernel]; omega) (fun σ ok A => by rw [show (0 : Int32).toInt.toNat = 0 from by decide +kernel, tkR_0]; exact ⟨Nat.zero_le _, ht26 σ ok A⟩) hP hS (lv_sub hl [1, 2, 3, 4, 0] rfl))
    exact key26 _ 0 0 Iz15 _ _ _ rfl ⟨by decide +kernel, by decide +kernel⟩ ⟨by decide +kernel, by decide +kernel⟩ hIz15 dn_Iz15 (by rw [show (0 : Int32).toInt = 0 from by decide +kernel]; omega) (fun σ ok A => by rw [show (0 : Int32).toInt.toNat = 0 from by decide +kernel, tkT_0]; exact ⟨by show (0 : Int32).toInt = 0; decide +kernel, by rw [u2_self]; exact (h22 σ ok A).1⟩) hP hS (lv_sub hl [2, 3, 1, 0] rfl)
  · have t9 := tq_eq (k := z6.toInt) (q := (0)) c9 rfl (by decide +kernel)
    refine lv_iconst (v := (-1)) hx hb dX7_ticks_12 (by decide +kernel) ?_
    subst hR; subst hQz
    exact W.iret (v := (-1)) hx hb hr (fun t ht hW => ⟨⟨(-1), (), rfl, (fun σ ok A => by rw [tk_n (by omega)]; show (-1 : Int32).toInt = -1; decide +kernel), ⟨I, J, ⟨hI, dn_I, (fun σ ok A => by rw [tk_n (by omega)]; exact A), dj_J⟩, by rw [ht]; exact hP⟩⟩, hS.F ht⟩) hS.2.2 dX7_ticks_13

set_option maxHeartbeats 4000000 in
set_option maxRecDepth 100000 in
theorem s_X7_crop (l : Launch) (dC : Nat → ClassId) (dI : Nat → Nat → Nat) (cs : Nat → ClassId) (L : List Nat) (K G : Nat → Nat) (Q : Nat → Nat → Option Nat) (hQ : Sv L K G Q) (x0 m0 : Nat) (tx : GT) (tm : GT × Int) (sz : Nat) (I : Nat → Nat → Int32) (J : Nat → Nat → Int64) (hI : Iv L K x0 m0 tx tm I) (p0 : Nat) (hLp0 : p0 ∈ L) (hKp0 : K p0 = 7) (p1 : Int32) (hIo : Iv L K x0 m0 tx (tm.1, tm.2 - 5000) I) : Met l yX7_crop (.code yX7_crop cX7_crop 4 (some .int) :: pw) ({ frames := 3, cells := 0, slots := 0, locals := 72 }) (sP (dC, dI) cs [.ref p0, .int p1] sz L K I J Q) (va_Qi (fun (r : Int32) (_ : Unit) => (∀ σ : Sx, okF σ.1 → cmA Q I J p0 σ → r.toInt = (crA σ p1).1)) (fun _ t => sB (dC, dI) cs L K Q (fun I1 J1 => Iv L K x0 m0 tx tm I1 ∧ (∀ b, K b = 0 ∨ K b = 1 ∨ K b = 3 ∨ K b = 6 → I1 b = I b) ∧ (∀ σ : Sx, okF σ.1 → cmA Q I J p0 σ → cmA Q I1 J1 p0 (crA σ p1).2) ∧ (∀ b, ¬ (K b = 21 ∨ K b = 22 ∨ K b = 33 ∨ K b = 34) → J1 b = J b)) t) (fun q => q ∈ L ∨ sz ≤ q)) 0 0 (fun q => q ∈ L ∨ sz ≤ q) := by
  refine Met.ofW (cc := cX7_crop) (maxL := 4) (ret := (some .int)) (by decide +kernel) rfl ?_
  intro p e s m args below meth c s₁ B hml hv
  obtain ⟨rfl, hsz, hP, hK, hD0, hN⟩ := hv
  have hx := B.exec
  have hb := B.bytes
  have hr := B.returns
  have hts := fun w (h : w ∈ pw) => atoms_spec (ws := Cond.code yX7_crop cX7_crop 4 (some .int) :: pw) B.pre w (List.mem_cons_of_mem _ h)
  have hown : s.vm.findClass RX7 = some m.cls := findClass_of_methodNamed B.named
  have hlocks := B.notSynchronized
  subst hsz
  have hBB : 999 ≤ tm.2 ∧ tm.2 ≤ 6000000 := hI.2.2.2.2.1
  have dn_I : (∀ b, K b = 0 ∨ K b = 1 ∨ K b = 3 ∨ K b = 6 → I b = I b) := fun _ _ => rfl
  have dj_J : (∀ b, ¬ (K b = 21 ∨ K b = 22 ∨ K b = 33 ∨ K b = 34) → J b = J b) := fun _ _ => rfl
  obtain ⟨A, hAe⟩ : ∃ A : Nat → Prop, A = (fun q => q ∈ L ∨ s.heap.size ≤ q) := ⟨_, rfl⟩
  rw [← hAe]
  have hAL : ∀ q, q ∈ L → A q := fun q h => by rw [hAe]; exact Or.inl h
  have hA : ∀ q, s.heap.size ≤ q → A q := fun q h => by rw [hAe]; exact Or.inr h
  have hD : ∀ F, va_D A (va_pl L F) := fun F => (hD0 F).weaken (fun k q hk _ => hAL _ (pl_mem hk))
  obtain ⟨H, hHe⟩ : ∃ H : Heap, H = s.heap := ⟨_, rfl⟩
  have hS : va_S A s.heap H [] := by rw [hHe]; exact va_S.rf
  rw [← hHe] at hP
  have hl := lv_entry ([.ref p0, .int p1]) (n := 4) (Nat.le_of_ble_eq_true rfl)
  rw [lg_entry_eq]
  generalize (lg_sl ([.ref p0, .int p1]) ++ List.replicate (4 - (lg_sl ([.ref p0, .int p1])).length) Slot.unset).toArray = ls at hl ⊢
  have hl : lv_has ls 4 [(0, .ref p0), (1, .int p1)] := hl
  rw [← hHe]
  refine namedW (fun R Qz hR hQz => ?_)
  have cr0 : crM (I ((Q p0 0).getD 0)) (tm.2 - 5000) := fun b => nwB (Iv_at hIo (nw_of hQ hLp0 hKp0).1 (nw_of hQ hLp0 hKp0).2)
  have nn0 : 999 ≤ tm.2 - 5000 := hIo.2.2.2.2.1.1
  refine lv_aload_n hx hb dX7_crop_0 rfl (lv_at hl 0 rfl) ?_
  refine lv_iload_n hx hb dX7_crop_1 rfl (lv_at hl 1 rfl) ?_
  refine ro_i (va_runV (As := [.int p1]) (rest := []) ⟨hx, hb, hml, hown, hts⟩ (s_X7_isMask l dC dI cs L K G Q hQ x0 m0 tx tm H.size I J hI p0 hLp0 hKp0 p1) (cwV 1 hts (gV pq1364 pq1366 pq31 pq81 pq1367) rfl rfl rfl (by decide +kernel) ⟨(by rw [hR]; exact (Nat.le_of_ble_eq_true rfl)), (by rw [hR]; exact (Nat.le_of_ble_eq_true rfl))⟩) (sP_V hP hD hK hN hLp0 hKp0 rfl rfl) rfl rfl hl.1 rfl (lv_room (Nat.le_of_ble_eq_true rfl)) dX7_crop_2 ⟨(by rw [hR]; exact (Nat.le_of_ble_eq_true rfl)), (by rw [hR]; exact (Nat.le_of_ble_eq_true rfl))⟩) hS hP (fun z2 H locs hz2 hP hS => ?_)
  obtain ⟨bz2, imz2, xpz2⟩ := hz2
  refine lv_if_ne (tgt := 10) hx hb dX7_crop_5 (by decide) (fun c5 => ?_) (fun c5 => ?_)
  · have t5 := tq_ne (k := z2.toInt) (q := (0)) c5 rfl (by decide +kernel)
    have i5 := imz2 t5
    refine lv_aload_n hx hb dX7_crop_10 rfl (lv_at hl 0 rfl) ?_
    refine lv_iload_n hx hb dX7_crop_11 rfl (lv_at hl 1 rfl) ?_
    refine sw_ir (Z := (fun u => (fun I1 J1 => Iv L K x0 m0 tx tm I1 ∧ (∀ b, ¬ (K b = 26) → I1 b = I b) ∧ rcI (hs (rW Q I p0 p1.toInt.toNat) (rH Q I p0 p1.toInt.toNat) (rF Q J p0 p1.toInt.toNat)) u.toInt ((I1 (a0 Q p0 20) 0).toInt, (I1 (a0 Q p0 20) 1).toInt, (I1 (a0 Q p0 20) 2).toInt, (I1 (a0 Q p0 20) 3).toInt) ∧ (∀ b, K b = 0 ∨ K b = 1 ∨ K b = 3 ∨ K b = 6 → I1 b = I b) ∧ J1 = J))) (va_runV (As := [.int p1]) (rest := []) ⟨hx, hb, hml, hown, hts⟩ (s_X7_reaches l dC dI cs L K G Q hQ x0 m0 tx tm H.size I J hI p0 hLp0 hKp0 p1 ⟨by omega, by omega⟩) (cwV 1 hts (gV pq1506 pq1508 pq53 pq81 pq1509) rfl rfl rfl (by decide +kernel) ⟨(by rw [hR]; exact (Nat.le_of_ble_eq_true rfl)), (by rw [hR]; exact (Nat.le_of_ble_eq_true rfl))⟩) (sP_V hP hD hK hN hLp0 hKp0 rfl rfl) rfl rfl hl.1 rfl (lv_room (Nat.le_of_ble_eq_true rfl)) dX7_crop_12 ⟨(by rw [hR]; exact (Nat.le_of_ble_eq_true rfl)), (by rw [hR]; exact (Nat.le_of_ble_eq_true rfl))⟩) hS hAL hA (fun z12 Iz12 Jz12 H locs hz12 hIz12 hP hS => ?_)
    obtain ⟨hIz12, frc12, fz12, dnc12, djc12⟩ := hIz12
    obtain rfl : J = Jz12 := djc12.symm
    have dn_Iz12 : (∀ b, K b = 0 ∨ K b = 1 ∨ K b = 3 ∨ K b = 6 → Iz12 b = I b) := fun b hc => (dnc12 b (by omega)).trans (dn_I b hc)
    have bz12 := hz12
    have rs : ∀ σ : Sx, okF σ.1 → cmA Q I J p0 σ → mK σ p1 ∧ cmA Q Iz12 J p0 σ ∧ (z12.toInt = 0 → (totr (mF σ p1) 40 : Int) = 0) ∧ (¬ z12.toInt = 0 → ¬ (totr (mF σ p1) 40 : Int) = 0 ∧ crE σ p1 = ((Iz12 (a0 Q p0 20) 0).toInt, (Iz12 (a0 Q p0 20) 1).toInt, (Iz12 (a0 Q p0 20) 2).toInt, (Iz12 (a0 Q p0 20) 3).toInt) ∧ crI σ p1) := fun σ ok A => by have ec : I (a0 Q p0 0) 0 = σ.1.1 0 := cmA_n A (by decide); have hm : mK σ p1 := (by have q := xpz2.1 t5; rw [ec] at q; exact q); have r := cr7_rs ok A hm fz12; exact ⟨hm, cmA_fr (I1 := Iz12) (J1 := J) hQ hLp0 hKp0 (fun b hb => frc12 b (by omega)) (fun _ _ => rfl) (congrFun (frc12 p0 (by omega)) 11) A, r.1, r.2⟩
    refine lv_if_eq (tgt := 68) hx hb dX7_crop_15 (by decide) (fun c15 => ?_) (fun c15 => ?_)
    · have t15 := tq_eq (k := z12.toInt) (q := (0)) c15 rfl (by decide +kernel)
      refine lv_bipush (v := (-2)) hx hb dX7_crop_68 (by decide +kernel) ?_
      subst hR; subst hQz
      exact W.iret (v := (-2)) hx hb hr (fun t ht hW => ⟨⟨(-2), (), rfl, (fun σ ok A => by rw [cr_e (rs σ ok A).1 (by first | exact Or.inl ((rs σ ok A).2.2.1 t15) | exact (by obtain ⟨hm, A1, -, rr⟩ := rs σ ok A; obtain ⟨nt, eE, ci⟩ := rr t15; rw [show a0 Q p0 20 = y19 from gd_of ey19] at eE; have cb := ci.1; have w1 := ci.2.1; have w2 := ci.2.2.1; rw [eE] at cb w1 w2; have e44 : z44 = mW σ p1 := (show z44 = Iz12 (a0 Q p0 0) (3 + p1.toInt.toNat) from fez44).trans (cmA_n A1 (by omega)); have e60 : z60 = mH σ p1 := (show z60 = Iz12 (a0 Q p0 0) (11 + p1.toInt.toNat) from fez60).trans (cmA_n A1 (by omega)); rw [← e44, ← e60] at cb; refine Or.inr ⟨?_, ?_⟩; (rw [eE, ← e44]; dsimp only at cb ⊢; omega); (rw [eE, ← e60]; dsimp only at cb ⊢; omega)))]; show (-2 : Int32).toInt = -2; decide +kernel), ⟨Iz12, J, ⟨hIz12, dn_Iz12, (fun σ ok A => by rw [cr_e (rs σ ok A).1 (by first | exact Or.inl ((rs σ ok A).2.2.1 t15) | exact (by obtain ⟨hm, A1, -, rr⟩ := rs σ ok A; obtain ⟨nt, eE, ci⟩ := rr t15; rw [show a0 Q p0 20 = y19 from gd_of ey19] at eE; have cb := ci.1; have w1 := ci.2.1; have w2 := ci.2.2.1; rw [eE] at cb w1 w2; have e44 : z44 = mW σ p1 := (show z44 = Iz12 (a0 Q p0 0) (3 + p1.toInt.toNat) from fez44).trans (cmA_n A1 (by omega)); have e60 : z60 = mH σ p1 := (show z60 = Iz12 (a0 Q p0 0) (11 + p1.toInt.toNat) from fez60).trans (cmA_n A1 (by omega)); rw [← e44, ← e60] at cb; refine Or.inr ⟨?_, ?_⟩; (rw [eE, ← e44]; dsimp only at cb ⊢; omega); (rw [eE, ← e60]; dsimp only at cb ⊢; omega)))]; exact (rs σ ok A).2.1), dj_J⟩, by rw [ht]; exact hP⟩⟩, hS.F ht⟩) hS.2.2 dX7_crop_70
    · have t15 := tq_ne (k := z12.toInt) (q := (0)) c15 rfl (by decide +kernel)
      refine lv_aload_n hx hb dX7_crop_18 rfl (lv_at hl 0 rfl) ?_
      obtain ⟨y19, ey19, hLy19, hKy19⟩ := oQ_7_20 (Sv_at hQ hLp0 hKp0)
      refine p_get (v := .ref y19) hx hb hts inX7 hown hK hP hLp0 hKp0 rfl rfl 20 (by decide) (hts _ pq1135) (congrArg (fun q => some (va_rf q)) ey19) dX7_crop_19 ?_
      refine lv_iconst (v := 0) hx hb dX7_crop_22 (by decide +kernel) ?_
      refine p_iald hx hb hK hP 16 hLy19 hKy19 rfl rfl (in_d (by decide +kernel)) dX7_crop_23 ?_
      refine lv_topi (fun z23 ez23 => ?_)
      have bz23 := oR_26 (i := (0 : Int32)) (k := (0)) (by decide +kernel) (Iv_at hIz12 hLy19 hKy19)
      rw [← ez23] at bz23
      have cq0 : z23.toInt = (Iz12 y19 0).toInt := congrArg Int32.toInt ez23
      have j71 : ∀ (H : Heap) (lo : List Loc) (ls : Array Slot), (∀ σ : Sx, okF σ.1 → cmA Q I J p0 σ → ¬ crN σ p1) → va_P (dC, dI) vwCl (Wd cs L K Iz12 J Q) H → va_S A s.heap H lo → lv_has ls 4 [(0, .ref p0), (1, .int p1)] → W p l e R s m (([.ref p0, .int p1] : List Value).toArray) below meth c H lo 0 0 Qz (F0 m 71 ls []) := by
        intro H lo ls hne hP hS hl
        refine lv_iconst (v := 0) hx hb dX7_crop_71 (by decide +kernel) ?_
        refine lv_istore_n (lv' := [(2, .int 0), (0, .ref p0), (1, .int p1)]) hx hb dX7_crop_72 rfl hl (by decide) rfl (fun ls hl => ?_)
        have key73 := blocks (fun n => ∀ (v73_2 : Int32) (H : Heap) (lo : List Loc) (ls : Array Slot), (11 - v73_2.toInt).toNat = n → ((0) ≤ v73_2.toInt ∧ v73_2.toInt ≤ 10) → (∀ σ : Sx, okF σ.1 → cmA Q I J p0 σ → ∀ j : Nat, j < v73_2.toInt.toNat → crSt σ p1 j → ¬ crFar σ p1 j) → va_P (dC, dI) vwCl (Wd cs L K Iz12 J Q) H → va_S A s.heap H lo → lv_has ls 4 [(0, .ref p0), (1, .int p1), (2, .int v73_2)] → W p l e R s m (([.ref p0, .int p1] : List Value).toArray) below meth c H lo 0 0 Qz (F0 m 73 ls [])) (by
          intro n ih73
          intro v73_2 H lo ls hmu73 bv73_2 hc73 hP hS hl
          refine lv_iload_n hx hb dX7_crop_73 rfl (lv_at hl 2 rfl) ?_
          refine lv_aload_n hx hb dX7_crop_74 rfl (lv_at hl 0 rfl) ?_
          obtain ⟨y75, ey75, hLy75, hKy75⟩ := oQ_7_0 (Sv_at hQ hLp0 hKp0)
          refine p_get (v := .ref y75) hx hb hts inX7 hown hK hP hLp0 hKp0 rfl rfl 0 (by decide) (hts _ pq1115) (congrArg (fun q => some (va_rf q)) ey75) dX7_crop_75 ?_
          refine lv_iconst (v := 1) hx hb dX7_crop_78 (by decide +kernel) ?_
          refine p_iald hx hb hK hP 8 hLy75 hKy75 rfl rfl (in_d (by decide +kernel)) dX7_crop_79 ?_
          refine lv_topi (fun z79 ez79 => ?_)
          have bz79 := rng1 (oR_18 (i := (1 : Int32)) (k := (1)) (by decide +kernel) (Iv_at hIz12 hLy75 hKy75))
          rw [← ez79] at bz79
          refine lv_icmp_ge (tgt := 139) hx hb dX7_crop_80 (by decide) (fun c80 => ?_) (fun c80 => ?_)
          · have t80 := tq_le (k := z79.toInt) (q := v73_2.toInt) c80 rfl rfl
            have hnf : ∀ σ : Sx, okF σ.1 → cmA Q I J p0 σ → ¬ ∃ j : Nat, j < (σ.1.1 1).toInt.toNat ∧ crSt σ p1 j ∧ crFar σ p1 j := fun σ ok A => by obtain ⟨hm, A1, -, rr⟩ := rs σ ok A; obtain ⟨nt, eE, ci⟩ := rr t15; have en : z79 = σ.1.1 1 := (show z79 = Iz12 (a0 Q p0 0) 1 from by rw [ez79, show a0 Q p0 0 = y75 from gd_of ey75]; rfl).trans (cmA_n A1 (by decide)); rintro ⟨j, hj, hs, hf⟩; exact hc73 σ ok A j (by rw [← en] at hj; omega) hs hf
            refine lv_aload_n hx hb dX7_crop_139 rfl (lv_at hl 0 rfl) ?_
            refine sw_v (Z := (fun I1 J1 => Iv L K x0 m0 tx tm I1 ∧ (∀ b, ¬ (K b = 7 ∨ K b = 19 ∨ K b = 30) → I1 b = Iz12 b) ∧ (∀ b, K b = 0 ∨ K b = 1 ∨ K b = 3 ∨ K b = 6 → I1 b = Iz12 b) ∧ (∀ σ : Sx, cmA Q Iz12 J p0 σ → cmA Q I1 J1 p0 (rem σ)) ∧ (∀ b, ¬ (K b = 22 ∨ K b = 33) → J1 b = J b))) (va_runV (As := []) (rest := []) ⟨hx, hb, hml, hown, hts⟩ (s_X7_keepsPast l dC dI cs L K G Q hQ x0 m0 tx tm H.size Iz12 J hIz12 p0 hLp0 hKp0) (cwV 0 hts (gV pq1324 pq1326 pq26 pq81 pq1327) rfl rfl rfl (by decide +kernel) ⟨(by rw [hR]; exact (Nat.le_of_ble_eq_true rfl)), (by rw [hR]; exact (Nat.le_of_ble_eq_true rfl))⟩) (sP_V hP hD hK hN hLp0 hKp0 rfl rfl) rfl rfl hl.1 rfl (lv_room (Nat.le_of_ble_eq_true rfl)) dX7_crop_140 ⟨(by rw [hR]; exact (Nat.le_of_ble_eq_true rfl)), (by rw [hR]; exact (Nat.le_of_ble_eq_true rfl))⟩) hS hAL hA (fun Iz140 Jz140 H locs hz140 hIz140 hP hS => ?_)
            obtain ⟨hIz140, frc140, dnc140, jz140, djc140⟩ := hIz140
            have dj_Jz140 : (∀ b, ¬ (K b = 21 ∨ K b = 22 ∨ K b = 33 ∨ K b = 34) → Jz140 b = J b) := fun b hc => (djc140 b (fun z => hc (by omega))).trans (dj_J b hc)
            have dn_Iz140 : (∀ b, K b = 0 ∨ K b = 1 ∨ K b = 3 ∨ K b = 6 → Iz140 b = I b) := fun b hc => (dnc140 b (by omega)).trans (dn_Iz12 b hc)
            have cr140 : crM (Iz140 ((Q p0 0).getD 0)) (tm.2 - 5000) := by rw [frc140 _ (by have := (nw_of hQ hLp0 hKp0).2; omega), frc12 _ (by have := (nw_of hQ hLp0 hKp0).2; omega)]; exact cr0
            refine lv_iconst (v := 0) hx hb dX7_crop_143 (by decide +kernel) ?_
            refine lv_istore_n (lv' := [(2, .int 0), (0, .ref p0), (1, .int p1)]) hx hb dX7_crop_144 rfl hl (by decide) rfl (fun ls hl => ?_)
            have key145 := blocks (fun n => ∀ (v145_2 : Int32) (I145 : Nat → Nat → Int32) (H : Heap) (lo : List Loc) (ls : Array Slot), (11 - v145_2.toInt).toNat = n → ((0) ≤ v145_2.toInt ∧ v145_2.toInt ≤ 10) → Iv L K x0 m0 tx tm I145 → (∀ b, K b = 0 ∨ K b = 1 ∨ K b = 3 ∨ K b = 6 → I145 b = I b) → crM (I145 ((Q p0 0).getD 0)) (tm.2 - 5000 + 500 * v145_2.toInt) → I145 (a0 Q p0 20) = Iz12 (a0 Q p0 20) → (∀ σ : Sx, okF σ.1 → cmA Q I J p0 σ → v145_2.toInt.toNat ≤ (σ.1.1 1).toInt.toNat ∧ cmA Q I145 Jz140 p0 (crC σ p1 v145_2.toInt.toNat, (rem σ).2)) → va_P (dC, dI) vwCl (Wd cs L K I145 Jz140 Q) H → va_S A s.heap H lo → lv_has ls 4 [(0, .ref p0), (1, .int p1), (2, .int v145_2)] → W p l e R s m (([.ref p0, .int p1] : List Value).toArray) below meth c H lo 0 0 Qz (F0 m 145 ls [])) (by
              intro n ih145
              intro v145_2 I145 H lo ls hmu145 bv145_2 hI145 dn_I145 hcr he145 hm145 hP hS hl
              refine lv_iload_n hx hb dX7_crop_145 rfl (lv_at hl 2 rfl) ?_
              refine lv_aload_n hx hb dX7_crop_146 rfl (lv_at hl 0 rfl) ?_
              refine p_get (v := .ref y75) hx hb hts inX7 hown hK hP hLp0 hKp0 rfl rfl 0 (by decide) (hts _ pq1115) (congrArg (fun q => some (va_rf q)) ey75) dX7_crop_147 ?_
              refine lv_iconst (v := 1) hx hb dX7_crop_150 (by decide +kernel) ?_
              refine p_iald hx hb hK hP 8 hLy75 hKy75 rfl rfl (in_d (by decide +kernel)) dX7_crop_151 ?_
              refine lv_topi (fun z151 ez151 => ?_)
              have bz151 := rng1 (oR_18 (i := (1 : Int32)) (k := (1)) (by decide +kernel) (Iv_at hI145 hLy75 hKy75))
              rw [← ez151] at bz151
              refine lv_icmp_ge (tgt := 187) hx hb dX7_crop_152 (by decide) (fun c152 => ?_) (fun c152 => ?_)
              · have t152 := tq_le (k := z151.toInt) (q := v145_2.toInt) c152 rfl rfl
                refine lv_aload_n hx hb dX7_crop_187 rfl (lv_at hl 0 rfl) ?_
                refine sw_v (Z := (fun I1 J1 => Iv L K x0 m0 tx tm I1 ∧ I1 = I145 ∧ (∀ k, k < 80 → J1 (a0 Q p0 19) k = 0) ∧ (∀ b, ¬ (K b = 34) → J1 b = Jz140 b))) (va_runV (As := []) (rest := []) ⟨hx, hb, hml, hown, hts⟩ (s_X7_clearsMade l dC dI cs L K G Q hQ x0 m0 tx tm H.size I145 Jz140 hI145 p0 hLp0 hKp0) (cwV 0 hts (gV pq1391 pq1393 pq36 pq81 pq1394) rfl rfl rfl (by decide +kernel) ⟨(by rw [hR]; exact (Nat.le_of_ble_eq_true rfl)), (by rw [hR]; exact (Nat.le_of_ble_eq_true rfl))⟩) (sP_V hP hD hK hN hLp0 hKp0 rfl rfl) rfl rfl hl.1 rfl (lv_room (Nat.le_of_ble_eq_true rfl)) dX7_crop_188 ⟨(by rw [hR]; exact (Nat.le_of_ble_eq_true rfl)), (by rw [hR]; exact (Nat.le_of_ble_eq_true rfl))⟩) hS hAL hA (fun Iz188 Jz188 H locs hz188 hIz188 hP hS => ?_)
                obtain ⟨hIz188, sm188, jz188, djc188⟩ := hIz188
                have dj_Jz188 : (∀ b, ¬ (K b = 21 ∨ K b = 22 ∨ K b = 33 ∨ K b = 34) → Jz188 b = J b) := fun b hc => (djc188 b (fun z => hc (by omega))).trans (dj_Jz140 b hc)
                obtain rfl : I145 = Iz188 := sm188.symm
                have h188 : ∀ σ : Sx, okF σ.1 → cmA Q I J p0 σ → (crE σ p1 = ((Iz12 (a0 Q p0 20) 0).toInt, (Iz12 (a0 Q p0 20) 1).toInt, (Iz12 (a0 Q p0 20) 2).toInt, (Iz12 (a0 Q p0 20) 3).toInt) ∧ crI σ p1) ∧ cmA Q I145 Jz188 p0 (crC σ p1 (σ.1.1 1).toInt.toNat, (rem σ).2) := fun σ ok A => by obtain ⟨l, B⟩ := hm145 σ ok A; obtain ⟨hm, A1, -, rr⟩ := rs σ ok A; obtain ⟨nt, eE, ci⟩ := rr t15; have nf := hnf σ ok A; have en : z151 = σ.1.1 1 := ((show z151 = I145 (a0 Q p0 0) 1 from by rw [ez151, show a0 Q p0 0 = y75 from gd_of ey75]; rfl).trans (cmA_n B (by decide))).trans (crC_lo (by decide)); have ej : v145_2.toInt.toNat = (σ.1.1 1).toInt.toNat := (by rw [← en] at l ⊢; omega); rw [ej] at B; exact ⟨⟨eE, ci⟩, cmA_fr (I1 := I145) (J1 := Jz188) hQ hLp0 hKp0 (fun _ _ => rfl) (fun b hb => djc188 b (by omega)) rfl B⟩
                refine lv_aload_n hx hb dX7_crop_191 rfl (lv_at hl 0 rfl) ?_
                refine p_get (v := .ref y19) hx hb hts inX7 hown hK hP hLp0 hKp0 rfl rfl 20 (by decide) (hts _ pq1135) (congrArg (fun q => some (va_rf q)) ey19) dX7_crop_192 ?_
                refine lv_iconst (v := 1) hx hb dX7_crop_195 (by decide +kernel) ?_
                refine p_iald hx hb hK hP 16 hLy19 hKy19 rfl rfl (in_d (by decide +kernel)) dX7_crop_196 ?_
                refine lv_topi (fun z196 ez196 => ?_)
                have bz196 := oR_26 (i := (1 : Int32)) (k := (1)) (by decide +kernel) (Iv_at hI145 hLy19 hKy19)
                rw [← ez196] at bz196
                have z196e : z196 = I145 (a0 Q p0 20) 1 := by rw [ez196, show a0 Q p0 20 = y19 from gd_of ey19]; rfl
                refine lv_istore_n (lv' := [(2, .int z196), (0, .ref p0), (1, .int p1)]) hx hb dX7_crop_197 rfl hl (by decide) rfl (fun ls hl => ?_)
                have key198 := blocks (fun n => ∀ (v198_2 : Int32) (J198 : Nat → Nat → Int64) (H : Heap) (lo : List Loc) (ls : Array Slot), (41 - v198_2.toInt).toNat = n → ((0) ≤ v198_2.toInt ∧ v198_2.toInt ≤ 40) → (∀ b, ¬ (K b = 21 ∨ K b = 22 ∨ K b = 33 ∨ K b = 34) → J198 b = J b) → z196.toInt ≤ v198_2.toInt → (∀ b, ¬ K b = 34 → J198 b = Jz188 b) → (∀ σ : Sx, okF σ.1 → cmA Q I J p0 σ → rxI (J198 (a0 Q p0 19)) (cropD (crE σ p1).1 (crE σ p1).2.1 (crE σ p1).2.2.1 (crE σ p1).2.2.2 (mF σ p1)) (v198_2.toInt - (crE σ p1).2.1) (0)) → va_P (dC, dI) vwCl (Wd cs L K I145 J198 Q) H → va_S A s.heap H lo → lv_has ls 4 [(0, .ref p0), (1, .int p1), (2, .int v198_2)] → W p l e R s m (([.ref p0, .int p1] : List Value).toArray) below meth c H lo 0 0 Qz (F0 m 198 ls [])) (by
                  intro n ih198
                  intro v198_2 J198 H lo ls hmu198 bv198_2 dj_J198 hy hd198 hq198 hP hS hl
                  refine lv_iload_n hx hb dX7_crop_198 rfl (lv_at hl 2 rfl) ?_
                  refine lv_aload_n hx hb dX7_crop_199 rfl (lv_at hl 0 rfl) ?_
                  refine p_get (v := .ref y19) hx hb hts inX7 hown hK hP hLp0 hKp0 rfl rfl 20 (by decide) (hts _ pq1135) (congrArg (fun q => some (va_rf q)) ey19) dX7_crop_200 ?_
                  refine lv_iconst (v := 3) hx hb dX7_crop_203 (by decide +kernel) ?_
                  refine p_iald hx hb hK hP 16 hLy19 hKy19 rfl rfl (in_d (by decide +kernel)) dX7_crop_204 ?_
                  refine lv_topi (fun z204 ez204 => ?_)
                  have bz204 := oR_26 (i := (3 : Int32)) (k := (3)) (by decide +kernel) (Iv_at hI145 hLy19 hKy19)
                  rw [← ez204] at bz204
                  have z204e : z204 = I145 (a0 Q p0 20) 3 := by rw [ez204, show a0 Q p0 20 = y19 from gd_of ey19]; rfl
                  refine lv_icmp_gt (tgt := 271) hx hb dX7_crop_205 (by decide) (fun c205 => ?_) (fun c205 => ?_)
                  · have t205 := tq_lt (k := z204.toInt) (q := v198_2.toInt) c205 rfl rfl
                    refine lv_aload_n hx hb dX7_crop_271 rfl (lv_at hl 0 rfl) ?_
                    refine lv_iload_n hx hb dX7_crop_272 rfl (lv_at hl 1 rfl) ?_
                    refine sw_v (Z := (fun I1 J1 => Iv L K x0 m0 tx tm I1 ∧ I1 = I145 ∧ (∀ k, k < 640 → J1 (a0 Q p0 5) k = if 80 * p1.toInt.toNat ≤ k ∧ k < 80 * p1.toInt.toNat + 80 then J198 (a0 Q p0 19) (k - 80 * p1.toInt.toNat) else J198 (a0 Q p0 5) k) ∧ (∀ b, ¬ (K b = 21) → J1 b = J198 b))) (va_runV (As := [.int p1]) (rest := []) ⟨hx, hb, hml, hown, hts⟩ (s_X7_takesMade l dC dI cs L K G Q hQ x0 m0 tx tm H.size I145 J198 hI145 p0 hLp0 hKp0 p1 ⟨by omega, by omega⟩) (cwV 1 hts (gV pq1399 pq1401 pq38 pq81 pq1402) rfl rfl rfl (by decide +kernel) ⟨(by rw [hR]; exact (Nat.le_of_ble_eq_true rfl)), (by rw [hR]; exact (Nat.le_of_ble_eq_true rfl))⟩) (sP_V hP hD hK hN hLp0 hKp0 rfl rfl) rfl rfl hl.1 rfl (lv_room (Nat.le_of_ble_eq_true rfl)) dX7_crop_273 ⟨(by rw [hR]; exact (Nat.le_of_ble_eq_true rfl)), (by rw [hR]; exact (Nat.le_of_ble_eq_true rfl))⟩) hS hAL hA (fun Iz273 Jz273 H locs hz273 hIz273 hP hS => ?_)
                    obtain ⟨hIz273, sm273, jz273, djc273⟩ := hIz273
                    have dj_Jz273 : (∀ b, ¬ (K b = 21 ∨ K b = 22 ∨ K b = 33 ∨ K b = 34) → Jz273 b = J b) := fun b hc => (djc273 b (fun z => hc (by omega))).trans (dj_J198 b hc)
                    obtain rfl : I145 = Iz273 := sm273.symm
                    refine lv_aload_n hx hb dX7_crop_276 rfl (lv_at hl 0 rfl) ?_
                    refine p_get (v := .ref y75) hx hb hts inX7 hown hK hP hLp0 hKp0 rfl rfl 0 (by decide) (hts _ pq1115) (congrArg (fun q => some (va_rf q)) ey75) dX7_crop_277 ?_
                    refine lv_iconst (v := 3) hx hb dX7_crop_280 (by decide +kernel) ?_
                    refine lv_iload_n hx hb dX7_crop_281 rfl (lv_at hl 1 rfl) ?_
                    refine lv_iadd hx hb dX7_crop_282 ?_
                    refine lv_topi (fun z282 ez282 => ?_)
                    have bz282 := tq_add (k := (3)) (q := p1.toInt) ez282 (by decide +kernel) rfl (by omega) (by omega)
                    refine lv_aload_n hx hb dX7_crop_283 rfl (lv_at hl 0 rfl) ?_
                    refine p_get (v := .ref y19) hx hb hts inX7 hown hK hP hLp0 hKp0 rfl rfl 20 (by decide) (hts _ pq1135) (congrArg (fun q => some (va_rf q)) ey19) dX7_crop_284 ?_
                    refine lv_iconst (v := 2) hx hb dX7_crop_287 (by decide +kernel) ?_
                    refine p_iald hx hb hK hP 16 hLy19 hKy19 rfl rfl (in_d (by decide +kernel)) dX7_crop_288 ?_
                    refine lv_topi (fun z288 ez288 => ?_)
                    have bz288 := oR_26 (i := (2 : Int32)) (k := (2)) (by decide +kernel) (Iv_at hI145 hLy19 hKy19)
                    rw [← ez288] at bz288
                    refine lv_aload_n hx hb dX7_crop_289 rfl (lv_at hl 0 rfl) ?_
                    refine p_get (v := .ref y19) hx hb hts inX7 hown hK hP hLp0 hKp0 rfl rfl 20 (by decide) (hts _ pq1135) (congrArg (fun q => some (va_rf q)) ey19) dX7_crop_290 ?_
                    refine lv_iconst (v := 0) hx hb dX7_crop_293 (by decide +kernel) ?_
                    refine p_iald hx hb hK hP 16 hLy19 hKy19 rfl rfl (in_d (by decide +kernel)) dX7_crop_294 ?_
                    refine lv_topi (fun z294 ez294 => ?_)
                    have bz294 := oR_26 (i := (0 : Int32)) (k := (0)) (by decide +kernel) (Iv_at hI145 hLy19 hKy19)
                    rw [← ez294] at bz294
                    refine lv_isub hx hb dX7_crop_295 ?_
                    refine lv_topi (fun z295 ez295 => ?_)
                    have bz295 := tq_sub (k := z288.toInt) (q := z294.toInt) ez295 rfl rfl (by omega) (by omega)
                    refine lv_iconst (v := 1) hx hb dX7_crop_296 (by decide +kernel) ?_
                    refine lv_iadd hx hb dX7_crop_297 ?_
                    refine lv_topi (fun z297 ez297 => ?_)
                    have bz297 := tq_add (k := z295.toInt) (q := (1)) ez297 rfl (by decide +kernel) (by omega) (by omega)
                    refine p_iast hx hb hK hP hD hS 8 hLy75 hKy75 rfl (fun _ => rfl) rfl (in_of (by omega) (by omega)) dX7_crop_298 (fun H locs hP hS => ?_)
                    obtain ⟨Iz298, hP, hIz298, qIz298⟩ : ∃ Iz298, va_P (dC, dI) vwCl (Wd cs L K Iz298 Jz273 Q) H ∧ Iv L K x0 m0 tx tm Iz298 ∧ Iz298 = va_up I145 y75 (upd (I145 y75) z282.toNatClampNeg z297) := ⟨_, hP, Iv_put hI145 hKy75 (oU_18 (i := z282) (k := z282.toInt) rfl (Iv_at hI145 hLy75 hKy75) (by unfold rng; omega)) (Or.inl (by decide)) (Or.inl (by decide)), rfl⟩
                    have dn_Iz298 : (∀ b, K b = 0 ∨ K b = 1 ∨ K b = 3 ∨ K b = 6 → Iz298 b = I b) := fun b hc => (congrFun qIz298 b).trans ((va_up_ne _ _ (fun z => by have q := hKy75; rw [← z] at q; omega)).trans (dn_I145 b hc))
                    refine lv_aload_n hx hb dX7_crop_299 rfl (lv_at hl 0 rfl) ?_
                    refine p_get (v := .ref y75) hx hb hts inX7 hown hK hP hLp0 hKp0 rfl rfl 0 (by decide) (hts _ pq1115) (congrArg (fun q => some (va_rf q)) ey75) dX7_crop_300 ?_
                    refine lv_bipush (v := 11) hx hb dX7_crop_303 (by decide +kernel) ?_
                    refine lv_iload_n hx hb dX7_crop_305 rfl (lv_at hl 1 rfl) ?_
                    refine lv_iadd hx hb dX7_crop_306 ?_
                    refine lv_topi (fun z306 ez306 => ?_)
                    have bz306 := tq_add (k := (11)) (q := p1.toInt) ez306 (by decide +kernel) rfl (by omega) (by omega)
                    refine lv_aload_n hx hb dX7_crop_307 rfl (lv_at hl 0 rfl) ?_
                    refine p_get (v := .ref y19) hx hb hts inX7 hown hK hP hLp0 hKp0 rfl rfl 20 (by decide) (hts _ pq1135) (congrArg (fun q => some (va_rf q)) ey19) dX7_crop_308 ?_
                    refine lv_iconst (v := 3) hx hb dX7_crop_311 (by decide +kernel) ?_
                    refine p_iald hx hb hK hP 16 hLy19 hKy19 rfl rfl (in_d (by decide +kernel)) dX7_crop_312 ?_
                    refine lv_topi (fun z312 ez312 => ?_)
                    have bz312 := oR_26 (i := (3 : Int32)) (k := (3)) (by decide +kernel) (Iv_at hIz298 hLy19 hKy19)
                    rw [← ez312] at bz312
                    refine lv_aload_n hx hb dX7_crop_313 rfl (lv_at hl 0 rfl) ?_
                    refine p_get (v := .ref y19) hx hb hts inX7 hown hK hP hLp0 hKp0 rfl rfl 20 (by decide) (hts _ pq1135) (congrArg (fun q => some (va_rf q)) ey19) dX7_crop_314 ?_
                    refine lv_iconst (v := 1) hx hb dX7_crop_317 (by decide +kernel) ?_
                    refine p_iald hx hb hK hP 16 hLy19 hKy19 rfl rfl (in_d (by decide +kernel)) dX7_crop_318 ?_
                    refine lv_topi (fun z318 ez318 => ?_)
                    have bz318 := oR_26 (i := (1 : Int32)) (k := (1)) (by decide +kernel) (Iv_at hIz298 hLy19 hKy19)
                    rw [← ez318] at bz318
                    refine lv_isub hx hb dX7_crop_319 ?_
                    refine lv_topi (fun z319 ez319 => ?_)
                    have bz319 := tq_sub (k := z312.toInt) (q := z318.toInt) ez319 rfl rfl (by omega) (by omega)
                    refine lv_iconst (v := 1) hx hb dX7_crop_320 (by decide +kernel) ?_
                    refine lv_iadd hx hb dX7_crop_321 ?_
                    refine lv_topi (fun z321 ez321 => ?_)
                    have bz321 := tq_add (k := z319.toInt) (q := (1)) ez321 rfl (by decide +kernel) (by omega) (by omega)
                    refine p_iast hx hb hK hP hD hS 8 hLy75 hKy75 rfl (fun _ => rfl) rfl (in_of (by omega) (by omega)) dX7_crop_322 (fun H locs hP hS => ?_)
                    obtain ⟨Iz322, hP, hIz322, qIz322⟩ : ∃ Iz322, va_P (dC, dI) vwCl (Wd cs L K Iz322 Jz273 Q) H ∧ Iv L K x0 m0 tx tm Iz322 ∧ Iz322 = va_up Iz298 y75 (upd (Iz298 y75) z306.toNatClampNeg z321) := ⟨_, hP, Iv_put hIz298 hKy75 (oU_18 (i := z306) (k := z306.toInt) rfl (Iv_at hIz298 hLy75 hKy75) (by unfold rng; omega)) (Or.inl (by decide)) (Or.inl (by decide)), rfl⟩
                    have dn_Iz322 : (∀ b, K b = 0 ∨ K b = 1 ∨ K b = 3 ∨ K b = 6 → Iz322 b = I b) := fun b hc => (congrFun qIz322 b).trans ((va_up_ne _ _ (fun z => by have q := hKy75; rw [← z] at q; omega)).trans (dn_Iz298 b hc))
                    refine lv_aload_n hx hb dX7_crop_323 rfl (lv_at hl 0 rfl) ?_
                    refine lv_iload_n hx hb dX7_crop_324 rfl (lv_at hl 1 rfl) ?_
                    refine ro_i (va_runV (As := [.int p1]) (rest := []) ⟨hx, hb, hml, hown, hts⟩ (s_X7_wide l dC dI cs L K G Q hQ x0 m0 tx tm H.size Iz322 Jz273 hIz322 p0 hLp0 hKp0 p1 ⟨by omega, by omega⟩) (cwV 1 hts (gV pq1368 pq1370 pq32 pq81 pq1371) rfl rfl rfl (by decide +kernel) ⟨(by rw [hR]; exact (Nat.le_of_ble_eq_true rfl)), (by rw [hR]; exact (Nat.le_of_ble_eq_true rfl))⟩) (sP_V hP hD hK hN hLp0 hKp0 rfl rfl) rfl rfl hl.1 rfl (lv_room (Nat.le_of_ble_eq_true rfl)) dX7_crop_325 ⟨(by rw [hR]; exact (Nat.le_of_ble_eq_true rfl)), (by rw [hR]; exact (Nat.le_of_ble_eq_true rfl))⟩) hS hP (fun z325 H locs hz325 hP hS => ?_)
                    obtain ⟨bz325, fez325⟩ := hz325
                    refine lv_aload_n hx hb dX7_crop_328 rfl (lv_at hl 0 rfl) ?_
                    refine lv_iload_n hx hb dX7_crop_329 rfl (lv_at hl 1 rfl) ?_
                    refine ro_i (va_runV (As := [.int p1]) (rest := [.int z325]) ⟨hx, hb, hml, hown, hts⟩ (s_X7_high l dC dI cs L K G Q hQ x0 m0 tx tm H.size Iz322 Jz273 hIz322 p0 hLp0 hKp0 p1 ⟨by omega, by omega⟩) (cwV 1 hts (gV pq1372 pq1374 pq33 pq81 pq1375) rfl rfl rfl (by decide +kernel) ⟨(by rw [hR]; exact (Nat.le_of_ble_eq_true rfl)), (by rw [hR]; exact (Nat.le_of_ble_eq_true rfl))⟩) (sP_V hP hD hK hN hLp0 hKp0 rfl rfl) rfl rfl hl.1 rfl (lv_room (Nat.le_of_ble_eq_true rfl)) dX7_crop_330 ⟨(by rw [hR]; exact (Nat.le_of_ble_eq_true rfl)), (by rw [hR]; exact (Nat.le_of_ble_eq_true rfl))⟩) hS hP (fun z330 H locs hz330 hP hS => ?_)
                    obtain ⟨bz330, fez330⟩ := hz330
                    refine lv_imul hx hb dX7_crop_333 ?_
                    refine lv_topi (fun z333 ez333 => ?_)
                    have z288e : z288 = I145 (a0 Q p0 20) 2 := by rw [ez288, show a0 Q p0 20 = y19 from gd_of ey19]; rfl
                    have z294e : z294 = I145 (a0 Q p0 20) 0 := by rw [ez294, show a0 Q p0 20 = y19 from gd_of ey19]; rfl
                    have z312e : z312 = I145 (a0 Q p0 20) 3 := by rw [ez312, qIz298, va_up_ne _ _ (ne_k hKy19 hKy75 (by decide)), show a0 Q p0 20 = y19 from gd_of ey19]; rfl
                    have z318e : z318 = I145 (a0 Q p0 20) 1 := by rw [ez318, qIz298, va_up_ne _ _ (ne_k hKy19 hKy75 (by decide)), show a0 Q p0 20 = y19 from gd_of ey19]; rfl
                    have hfin : ∀ σ : Sx, okF σ.1 → cmA Q I J p0 σ → z333.toInt = ((crE σ p1).2.2.1 - (crE σ p1).1 + 1) * ((crE σ p1).2.2.2 - (crE σ p1).2.1 + 1) ∧ cmA Q Iz322 Jz273 p0 (setM (crC σ p1 (σ.1.1 1).toInt.toNat) p1.toInt.toNat (crW σ p1) (crH σ p1) (crF σ p1), (rem σ).2) := fun σ ok A => by obtain ⟨⟨eE, ci⟩, B⟩ := h188 σ ok A; have cb := ci.1; have w1 := ci.2.1; have w2 := ci.2.2.1; have u0 := congrArg Int32.toInt (z294e.trans (congrFun he145 0)); have u1 := congrArg Int32.toInt (z318e.trans (congrFun he145 1)); have u2 := congrArg Int32.toInt (z288e.trans (congrFun he145 2)); have u3 := congrArg Int32.toInt (z312e.trans (congrFun he145 3)); rw [eE] at cb w1 w2; dsimp only at cb w1 w2; have xW : z297 = crW σ p1 := Int32.toInt_inj.mp (by omega); have xH : z321 = crH σ p1 := Int32.toInt_inj.mp (by omega); have fin := rx_fin (h := (crE σ p1).2.2.2 - (crE σ p1).2.1 + 1) (by have q := hq198 σ ok A; exact q) (fun x y q => (crop_b x y q).2.2) (by rw [eE]; have w0 := congrArg Int32.toInt (z204e.trans (congrFun he145 3)); dsimp only; omega); have B2 := cmA_fr (I1 := I145) (J1 := J198) hQ hLp0 hKp0 (fun _ _ => rfl) (fun b hb => hd198 b (by omega)) rfl B; have D := cmA_setM (m := p1.toInt.toNat) (w := crW σ p1) (h := crH σ p1) (f := crF σ p1) (I := I145) (J := J198) (I1 := Iz322) (J1 := Jz273) hQ hLp0 hKp0 (by omega) (by rw [show a0 Q p0 0 = y75 from gd_of ey75, qIz322, va_up_self, qIz298, va_up_self, xW, xH, show z282.toNatClampNeg = 3 + p1.toInt.toNat from (by show z282.toInt.toNat = _; omega), show z306.toNatClampNeg = 11 + p1.toInt.toNat from (by show z306.toInt.toNat = _; omega)]) (tk_fin jz273 fin) (fun b hb => by rw [qIz322, va_up_ne _ _ (fun z => hb (by rw [z]; exact hKy75)), qIz298, va_up_ne _ _ (fun z => hb (by rw [z]; exact hKy75))]) (fun b hb => djc273 b (by omega)) B2; refine ⟨?_, D⟩; have x1 : z325 = crW σ p1 := (by rw [show z325 = Iz322 (a0 Q p0 0) (3 + p1.toInt.toNat) from fez325, cmA_n D (by omega)]; show (setM _ _ _ _ _).1 _ = _; rw [setM_w (by omega), if_pos rfl]); have x2 : z330 = crH σ p1 := (by rw [show z330 = Iz322 (a0 Q p0 0) (11 + p1.toInt.toNat) from fez330, cmA_n D (by omega)]; show (setM _ _ _ _ _).1 _ = _; rw [setM_h (by omega), if_pos rfl]); rw [ez333, x1, x2, ← ci.2.1, ← ci.2.2.1]; exact mul_sm (by rw [ci.2.1]; have := ci.1.1; omega) (by rw [ci.2.2.1]; have := ci.1.2; omega)
                    subst hR; subst hQz
                    exact W.iret (v := z333) hx hb hr (fun t ht hW => ⟨⟨z333, (), rfl, (fun σ ok A => by rw [cr_y (rs σ ok A).1 (hne σ ok A) (hnf σ ok A)]; exact (hfin σ ok A).1), ⟨Iz322, Jz273, ⟨hIz322, dn_Iz322, (fun σ ok A => by rw [cr_y (rs σ ok A).1 (hne σ ok A) (hnf σ ok A)]; exact (hfin σ ok A).2), dj_Jz273⟩, by rw [ht]; exact hP⟩⟩, hS.F ht⟩) hS.2.2 dX7_crop_334
                  · have t205 := tq_nlt (k := z204.toInt) (q := v198_2.toInt) c205 rfl rfl
                    refine lv_aload_n hx hb dX7_crop_208 rfl (lv_at hl 0 rfl) ?_
                    refine p_get (v := .ref y19) hx hb hts inX7 hown hK hP hLp0 hKp0 rfl rfl 20 (by decide) (hts _ pq1135) (congrArg (fun q => some (va_rf q)) ey19) dX7_crop_209 ?_
                    refine lv_iconst (v := 0) hx hb dX7_crop_212 (by decide +kernel) ?_
                    refine p_iald hx hb hK hP 16 hLy19 hKy19 rfl rfl (in_d (by decide +kernel)) dX7_crop_213 ?_
                    refine lv_topi (fun z213 ez213 => ?_)
                    have bz213 := oR_26 (i := (0 : Int32)) (k := (0)) (by decide +kernel) (Iv_at hI145 hLy19 hKy19)
                    rw [← ez213] at bz213
                    have z213e : z213 = I145 (a0 Q p0 20) 0 := by rw [ez213, show a0 Q p0 20 = y19 from gd_of ey19]; rfl
                    refine lv_istore_n (lv' := [(3, .int z213), (0, .ref p0), (1, .int p1), (2, .int v198_2)]) hx hb dX7_crop_214 rfl hl (by decide) rfl (fun ls hl => ?_)
                    have key215 := blocks (fun n => ∀ (v215_3 : Int32) (J215 : Nat → Nat → Int64) (H : Heap) (lo : List Loc) (ls : Array Slot), (101 - v215_3.toInt).toNat = n → ((0) ≤ v215_3.toInt ∧ v215_3.toInt ≤ 100) → (∀ b, ¬ (K b = 21 ∨ K b = 22 ∨ K b = 33 ∨ K b = 34) → J215 b = J b) → z213.toInt ≤ v215_3.toInt → (∀ b, ¬ K b = 34 → J215 b = Jz188 b) → (∀ σ : Sx, okF σ.1 → cmA Q I J p0 σ → rxI (J215 (a0 Q p0 19)) (cropD (crE σ p1).1 (crE σ p1).2.1 (crE σ p1).2.2.1 (crE σ p1).2.2.2 (mF σ p1)) (v198_2.toInt - (crE σ p1).2.1) (v215_3.toInt - (crE σ p1).1)) → va_P (dC, dI) vwCl (Wd cs L K I145 J215 Q) H → va_S A s.heap H lo → lv_has ls 4 [(0, .ref p0), (1, .int p1), (2, .int v198_2), (3, .int v215_3)] → W p l e R s m (([.ref p0, .int p1] : List Value).toArray) below meth c H lo 0 0 Qz (F0 m 215 ls [])) (by
                      intro n ih215
                      intro v215_3 J215 H lo ls hmu215 bv215_3 dj_J215 hx0 hd215 hq215 hP hS hl
                      refine lv_iload_n hx hb dX7_crop_215 rfl (lv_at hl 3 rfl) ?_
                      refine lv_aload_n hx hb dX7_crop_216 rfl (lv_at hl 0 rfl) ?_
                      refine p_get (v := .ref y19) hx hb hts inX7 hown hK hP hLp0 hKp0 rfl rfl 20 (by decide) (hts _ pq1135) (congrArg (fun q => some (va_rf q)) ey19) dX7_crop_217 ?_
                      refine lv_iconst (v := 2) hx hb dX7_crop_220 (by decide +kernel) ?_
                      refine p_iald hx hb hK hP 16 hLy19 hKy19 rfl rfl (in_d (by decide +kernel)) dX7_crop_221 ?_
                      refine lv_topi (fun z221 ez221 => ?_)
                      have bz221 := oR_26 (i := (2 : Int32)) (k := (2)) (by decide +kernel) (Iv_at hI145 hLy19 hKy19)
                      rw [← ez221] at bz221
                      have z221e : z221 = I145 (a0 Q p0 20) 2 := by rw [ez221, show a0 Q p0 20 = y19 from gd_of ey19]; rfl
                      refine lv_icmp_gt (tgt := 265) hx hb dX7_crop_222 (by decide) (fun c222 => ?_) (fun c222 => ?_)
                      · have t222 := tq_lt (k := z221.toInt) (q := v215_3.toInt) c222 rfl rfl
                        obtain ⟨z265, ez265⟩ : ∃ y : Int32, y = v198_2 + 1 := ⟨_, rfl⟩
                        refine lv_iinc (v := z265) (lv' := [(2, .int z265), (0, .ref p0), (1, .int p1), (3, .int v215_3)]) hx hb dX7_crop_265 hl (k := 2) rfl (by rw [ez265]; rfl) (by decide) rfl (fun ls hl => ?_)
                        have bz265 := tq_add (k := v198_2.toInt) (q := 1) ez265 rfl (by decide +kernel) (by omega) (by omega)
                        refine lv_goto (tgt := 198) hx hb dX7_crop_268 (by decide) ?_
                        exact ih198 _ (by omega) z265 J215 _ _ _ rfl ⟨by omega, by omega⟩ dj_J215 (by omega) hd215 (fun σ ok A => by obtain ⟨⟨eE, ci⟩, B⟩ := h188 σ ok A; exact rx_nl (w := (crE σ p1).2.2.1 - (crE σ p1).1 + 1) (hq215 σ ok A) (fun x y q => (crop_b x y q).1) (by rw [eE]; have w0 := congrArg Int32.toInt (z221e.trans (congrFun he145 2)); dsimp only; omega) (by omega)) hP hS (lv_sub hl [1, 2, 0] rfl)
                      · have t222 := tq_nlt (k := z221.toInt) (q := v215_3.toInt) c222 rfl rfl
                        refine lv_aload_n hx hb dX7_crop_225 rfl (lv_at hl 0 rfl) ?_
                        refine lv_iload_n hx hb dX7_crop_226 rfl (lv_at hl 1 rfl) ?_
                        refine lv_iload_n hx hb dX7_crop_227 rfl (lv_at hl 3 rfl) ?_
                        refine lv_iload_n hx hb dX7_crop_228 rfl (lv_at hl 2 rfl) ?_
                        refine ro_i (va_runV (As := [.int p1, .int v215_3, .int v198_2]) (rest := []) ⟨hx, hb, hml, hown, hts⟩ (s_X7_has l dC dI cs L K G Q hQ x0 m0 tx tm H.size I145 J215 hI145 p0 hLp0 hKp0 p1 ⟨by omega, by omega⟩ v215_3 v198_2) (cwV 3 hts (gV pq1376 pq1378 pq34 pq81 pq1379) rfl rfl rfl (by decide +kernel) ⟨(by rw [hR]; exact (Nat.le_of_ble_eq_true rfl)), (by rw [hR]; exact (Nat.le_of_ble_eq_true rfl))⟩) (sP_V hP hD hK hN hLp0 hKp0 rfl rfl) rfl rfl hl.1 rfl (lv_room (Nat.le_of_ble_eq_true rfl)) dX7_crop_229 ⟨(by rw [hR]; exact (Nat.le_of_ble_eq_true rfl)), (by rw [hR]; exact (Nat.le_of_ble_eq_true rfl))⟩) hS hP (fun z229 H locs hz229 hP hS => ?_)
                        obtain ⟨bz229, imz229, xpz229⟩ := hz229
                        have hx229 : ∀ σ : Sx, okF σ.1 → cmA Q I J p0 σ → z229.toInt = bi (md (mF σ p1) v215_3.toInt v198_2.toInt) ∧ (cropD (crE σ p1).1 (crE σ p1).2.1 (crE σ p1).2.2.1 (crE σ p1).2.2.2 (mF σ p1)) (v215_3.toInt - (crE σ p1).1) (v198_2.toInt - (crE σ p1).2.1) = md (mF σ p1) v215_3.toInt v198_2.toInt := fun σ ok A => by obtain ⟨⟨eE, ci⟩, B⟩ := h188 σ ok A; have hm := (rs σ ok A).1; have n : p1.toInt.toNat < (σ.1.1 0).toInt.toNat := (by have := hm.1; have := hm.2; omega); have o := ok.2.2.1 _ n; have q := xpz229; have eW : rW Q I145 p0 p1.toInt.toNat = (mW σ p1).toInt := congrArg Int32.toInt ((cmA_n B (by omega)).trans (crC_lo (by omega))); have eH : rH Q I145 p0 p1.toInt.toNat = (mH σ p1).toInt := congrArg Int32.toInt ((cmA_n B (by omega)).trans (crC_lo (by omega))); have eF : ∀ k, k < 80 → rF Q J215 p0 p1.toInt.toNat k = mF σ p1 k := (fun k hk => by show J215 (a0 Q p0 5) _ = _; rw [hd215 _ (by have := (a_g hQ hLp0 hKp0).1.2; omega)]; exact (cmA_rJ B _ (by omega)).trans (by show (crC σ p1 _).2 _ = _; rw [show (crC σ p1 (σ.1.1 1).toInt.toNat).2 = σ.1.2 from crJ_2]; rfl)); rw [hs_congr eW eH eF, hs_of o.2.2] at q; refine ⟨q, crop_at ?_ ?_⟩; (rw [eE]; have w0 := congrArg Int32.toInt (z213e.trans (congrFun he145 0)); have w2 := congrArg Int32.toInt (z221e.trans (congrFun he145 2)); dsimp only; omega); (rw [eE]; have w1 := congrArg Int32.toInt (z196e.trans (congrFun he145 1)); have w3 := congrArg Int32.toInt (z204e.trans (congrFun he145 3)); dsimp only; omega)
                        have j259 : ∀ (J259 : Nat → Nat → Int64) (H : Heap) (lo : List Loc) (ls : Array Slot), (∀ b, ¬ (K b = 21 ∨ K b = 22 ∨ K b = 33 ∨ K b = 34) → J259 b = J b) → (∀ b, ¬ K b = 34 → J259 b = Jz188 b) → (∀ σ : Sx, okF σ.1 → cmA Q I J p0 σ → rxI (J259 (a0 Q p0 19)) (cropD (crE σ p1).1 (crE σ p1).2.1 (crE σ p1).2.2.1 (crE σ p1).2.2.2 (mF σ p1)) (v198_2.toInt - (crE σ p1).2.1) (v215_3.toInt - (crE σ p1).1 + 1)) → va_P (dC, dI) vwCl (Wd cs L K I145 J259 Q) H → va_S A s.heap H lo → lv_has ls 4 [(0, .ref p0), (1, .int p1), (2, .int v198_2), (3, .int v215_3)] → W p l e R s m (([.ref p0, .int p1] : List Value).toArray) below meth c H lo 0 0 Qz (F0 m 259 ls []) := by
                          intro J259 H lo ls dj_J259 hd259 hq259 hP hS hl
                          obtain ⟨z259, ez259⟩ : ∃ y : Int32, y = v215_3 + 1 := ⟨_, rfl⟩
                          refine lv_iinc (v := z259) (lv' := [(3, .int z259), (0, .ref p0), (1, .int p1), (2, .int v198_2)]) hx hb dX7_crop_259 hl (k := 3) rfl (by rw [ez259]; rfl) (by decide) rfl (fun ls hl => ?_)
                          have bz259 := tq_add (k := v215_3.toInt) (q := 1) ez259 rfl (by decide +kernel) (by omega) (by omega)
                          refine lv_goto (tgt := 215) hx hb dX7_crop_262 (by decide) ?_
                          exact ih215 _ (by omega) z259 J259 _ _ _ rfl ⟨by omega, by omega⟩ dj_J259 (by omega) hd259 (fun σ ok A => by rw [show z259.toInt - (crE σ p1).1 = v215_3.toInt - (crE σ p1).1 + 1 by omega]; exact hq259 σ ok A) hP hS (lv_sub hl [1, 2, 3, 0] rfl)
                        refine lv_if_eq (tgt := 259) hx hb dX7_crop_232 (by decide) (fun c232 => ?_) (fun c232 => ?_)
                        · have t232 := tq_eq (k := z229.toInt) (q := (0)) c232 rfl (by decide +kernel)
                          exact j259 J215 _ _ _ dj_J215 hd215 (fun σ ok A => rx_skip (hq215 σ ok A) rfl (by rw [(hx229 σ ok A).2]; exact bi_f (hx229 σ ok A).1 t232)) hP hS (lv_sub hl [0, 1, 2, 3] rfl)
                        · have t232 := tq_ne (k := z229.toInt) (q := (0)) c232 rfl (by decide +kernel)
                          have i232 := imz229 t232
                          refine lv_aload_n hx hb dX7_crop_235 rfl (lv_at hl 0 rfl) ?_
                          obtain ⟨y236, ey236, hLy236, hKy236⟩ := oQ_7_19 (Sv_at hQ hLp0 hKp0)
                          refine p_get (v := .ref y236) hx hb hts inX7 hown hK hP hLp0 hKp0 rfl rfl 19 (by decide) (hts _ pq1134) (congrArg (fun q => some (va_rf q)) ey236) dX7_crop_236 ?_
                          refine lv_iconst (v := 0) hx hb dX7_crop_239 (by decide +kernel) ?_
                          refine lv_iload_n hx hb dX7_crop_240 rfl (lv_at hl 3 rfl) ?_
                          refine lv_aload_n hx hb dX7_crop_241 rfl (lv_at hl 0 rfl) ?_
                          refine p_get (v := .ref y19) hx hb hts inX7 hown hK hP hLp0 hKp0 rfl rfl 20 (by decide) (hts _ pq1135) (congrArg (fun q => some (va_rf q)) ey19) dX7_crop_242 ?_
                          refine lv_iconst (v := 0) hx hb dX7_crop_245 (by decide +kernel) ?_
                          refine p_iald hx hb hK hP 16 hLy19 hKy19 rfl rfl (in_d (by decide +kernel)) dX7_crop_246 ?_
                          refine lv_topi (fun z246 ez246 => ?_)
                          obtain rfl : z213 = z246 := ez213.trans ez246.symm
                          refine lv_isub hx hb dX7_crop_247 ?_
                          refine lv_topi (fun z247 ez247 => ?_)
                          have bz247 := tq_sub (k := v215_3.toInt) (q := z213.toInt) ez247 rfl rfl (by omega) (by omega)
                          refine lv_iload_n hx hb dX7_crop_248 rfl (lv_at hl 2 rfl) ?_
                          refine lv_aload_n hx hb dX7_crop_249 rfl (lv_at hl 0 rfl) ?_
                          refine p_get (v := .ref y19) hx hb hts inX7 hown hK hP hLp0 hKp0 rfl rfl 20 (by decide) (hts _ pq1135) (congrArg (fun q => some (va_rf q)) ey19) dX7_crop_250 ?_
                          refine lv_iconst (v := 1) hx hb dX7_crop_253 (by decide +kernel) ?_
                          refine p_iald hx hb hK hP 16 hLy19 hKy19 rfl rfl (in_d (by decide +kernel)) dX7_crop_254 ?_
                          refine lv_topi (fun z254 ez254 => ?_)
                          obtain rfl : z196 = z254 := ez196.trans ez254.symm
                          refine lv_isub hx hb dX7_crop_255 ?_
                          refine lv_topi (fun z255 ez255 => ?_)
                          have bz255 := tq_sub (k := v198_2.toInt) (q := z196.toInt) ez255 rfl rfl (by omega) (by omega)
                          refine sw_v (Z := (fun I1 J1 => Iv L K x0 m0 tx tm I1 ∧ I1 = I145 ∧ (∀ x y : Int, md (J1 y236) x y = (md (J215 y236) x y || decide (x = z247.toInt ∧ y = z255.toInt))) ∧ (∀ b, ¬ (K b = 34) → J1 b = J215 b))) (va_runS (As := [.ref y236, .int 0, .int z247, .int z255]) (rest := []) ⟨hx, hb, hml, hown, hts⟩ (s_X7_setsDotM l dC dI cs L K G Q hQ x0 m0 tx tm H.size I145 J215 hI145 y236 hLy236 hKy236 0 ⟨by decide +kernel, by decide +kernel⟩ z247 ⟨by omega, by omega⟩ z255 ⟨by omega, by omega⟩) (va_cwS 4 hts (gS pq1254 pq1255 pq81 pq1256) rfl rfl rfl (by decide +kernel) ⟨(by rw [hR]; exact (Nat.le_of_ble_eq_true rfl)), (by rw [hR]; exact (Nat.le_of_ble_eq_true rfl))⟩) (sP_S hP hD hK hN) rfl rfl hl.1 rfl (lv_room (Nat.le_of_ble_eq_true rfl)) dX7_crop_256 ⟨(by rw [hR]; exact (Nat.le_of_ble_eq_true rfl)), (by rw [hR]; exact (Nat.le_of_ble_eq_true rfl))⟩) hS hAL hA (fun Iz256 Jz256 H locs hz256 hIz256 hP hS => ?_)
                          obtain ⟨hIz256, sm256, jz256, djc256⟩ := hIz256
                          have dj_Jz256 : (∀ b, ¬ (K b = 21 ∨ K b = 22 ∨ K b = 33 ∨ K b = 34) → Jz256 b = J b) := fun b hc => (djc256 b (fun z => hc (by omega))).trans (dj_J215 b hc)
                          obtain rfl : I145 = Iz256 := sm256.symm
                          exact j259 Jz256 _ _ _ dj_Jz256 (fun b hb => (djc256 b (by omega)).trans (hd215 b hb)) (fun σ ok A => rx_put (hq215 σ ok A) rfl (by rw [(hx229 σ ok A).2]; exact bi_t (hx229 σ ok A).1 t232) (fun x y => by have q := jz256 x y; have b0 : z247.toInt = v215_3.toInt - (crE σ p1).1 := (by obtain ⟨⟨eE, ci⟩, B⟩ := h188 σ ok A; rw [eE]; have w0 := congrArg Int32.toInt (z213e.trans (congrFun he145 0)); dsimp only; omega); have b1 : z255.toInt = v198_2.toInt - (crE σ p1).2.1 := (by obtain ⟨⟨eE, ci⟩, B⟩ := h188 σ ok A; rw [eE]; have w0 := congrArg Int32.toInt (z196e.trans (congrFun he145 1)); dsimp only; omega); rw [b0, b1] at q; rw [show a0 Q p0 19 = y236 from gd_of ey236]; exact q)) hP hS (lv_sub hl [0, 1, 2, 3] rfl))
                    exact key215 _ z213 J198 _ _ _ rfl ⟨by omega, by omega⟩ dj_J198 (by omega) hd198 (fun σ ok A => by obtain ⟨⟨eE, ci⟩, B⟩ := h188 σ ok A; have w : z213.toInt - (crE σ p1).1 = 0 := (by rw [eE]; have w0 := congrArg Int32.toInt (z213e.trans (congrFun he145 0)); dsimp only; omega); rw [w]; exact hq198 σ ok A) hP hS (lv_sub hl [1, 2, 3, 0] rfl))
                exact key198 _ z196 Jz188 _ _ _ rfl ⟨by omega, by omega⟩ dj_Jz188 (by omega) (fun _ _ => rfl) (fun σ ok A => by obtain ⟨⟨eE, ci⟩, B⟩ := h188 σ ok A; have w : z196.toInt = (crE σ p1).2.1 := (by rw [eE]; exact congrArg Int32.toInt (z196e.trans (congrFun he145 1))); rw [w, Int.sub_self]; exact rx_0 jz188 (fun x y q => ⟨(crop_b x y q).1.1, (crop_b x y q).2.1⟩)) hP hS (lv_sub hl [1, 2, 0] rfl)
              · have t152 := tq_nle (k := z151.toInt) (q := v145_2.toInt) c152 rfl rfl
                refine lv_aload_n hx hb dX7_crop_155 rfl (lv_at hl 0 rfl) ?_
                refine lv_iload_n hx hb dX7_crop_156 rfl (lv_at hl 2 rfl) ?_
                refine ro_i (va_runV (As := [.int v145_2]) (rest := []) ⟨hx, hb, hml, hown, hts⟩ (s_X7_maskOf l dC dI cs L K G Q hQ x0 m0 tx tm H.size I145 Jz140 hI145 p0 hLp0 hKp0 v145_2 ⟨by omega, by omega⟩) (cwV 1 hts (gV pq1431 pq1433 pq41 pq81 pq1434) rfl rfl rfl (by decide +kernel) ⟨(by rw [hR]; exact (Nat.le_of_ble_eq_true rfl)), (by rw [hR]; exact (Nat.le_of_ble_eq_true rfl))⟩) (sP_V hP hD hK hN hLp0 hKp0 rfl rfl) rfl rfl hl.1 rfl (lv_room (Nat.le_of_ble_eq_true rfl)) dX7_crop_157 ⟨(by rw [hR]; exact (Nat.le_of_ble_eq_true rfl)), (by rw [hR]; exact (Nat.le_of_ble_eq_true rfl))⟩) hS hP (fun z157 H locs hz157 hP hS => ?_)
                obtain ⟨bz157, fez157⟩ := hz157
                refine lv_iload_n hx hb dX7_crop_160 rfl (lv_at hl 1 rfl) ?_
                have j181 : ∀ (I181 : Nat → Nat → Int32) (H : Heap) (lo : List Loc) (ls : Array Slot), Iv L K x0 m0 tx tm I181 → (∀ b, K b = 0 ∨ K b = 1 ∨ K b = 3 ∨ K b = 6 → I181 b = I b) → crM (I181 ((Q p0 0).getD 0)) (tm.2 - 5000 + 500 * (v145_2.toInt + 1)) → I181 (a0 Q p0 20) = Iz12 (a0 Q p0 20) → (∀ σ : Sx, okF σ.1 → cmA Q I J p0 σ → v145_2.toInt.toNat < (σ.1.1 1).toInt.toNat ∧ cmA Q I181 Jz140 p0 (crC σ p1 (v145_2.toInt.toNat + 1), (rem σ).2)) → va_P (dC, dI) vwCl (Wd cs L K I181 Jz140 Q) H → va_S A s.heap H lo → lv_has ls 4 [(0, .ref p0), (1, .int p1), (2, .int v145_2)] → W p l e R s m (([.ref p0, .int p1] : List Value).toArray) below meth c H lo 0 0 Qz (F0 m 181 ls []) := by
                  intro I181 H lo ls hI181 dn_I181 h181 he181 hm181 hP hS hl
                  obtain ⟨z181, ez181⟩ : ∃ y : Int32, y = v145_2 + 1 := ⟨_, rfl⟩
                  refine lv_iinc (v := z181) (lv' := [(2, .int z181), (0, .ref p0), (1, .int p1)]) hx hb dX7_crop_181 hl (k := 2) rfl (by rw [ez181]; rfl) (by decide) rfl (fun ls hl => ?_)
                  have bz181 := tq_add (k := v145_2.toInt) (q := 1) ez181 rfl (by decide +kernel) (by omega) (by omega)
                  refine lv_goto (tgt := 145) hx hb dX7_crop_184 (by decide) ?_
                  exact ih145 _ (by omega) z181 I181 _ _ _ rfl ⟨by omega, by omega⟩ hI181 dn_I181 (by rw [bz181]; exact h181) he181 (fun σ ok A => by rw [show z181.toInt.toNat = v145_2.toInt.toNat + 1 by omega]; exact hm181 σ ok A) hP hS (lv_sub hl [1, 2, 0] rfl)
                refine lv_icmp_ne (tgt := 181) hx hb dX7_crop_161 (by decide) (fun c161 => ?_) (fun c161 => ?_)
                · have t161 := tq_ne (k := z157.toInt) (q := p1.toInt) c161 rfl rfl
                  exact j181 I145 _ _ _ hI145 dn_I145 (crM_mono hcr (by omega)) he145 (fun σ ok A => by obtain ⟨l, B⟩ := hm145 σ ok A; obtain ⟨hm, A1, -, rr⟩ := rs σ ok A; obtain ⟨nt, eE, ci⟩ := rr t15; have nf := hnf σ ok A; have en : z151 = σ.1.1 1 := ((show z151 = I145 (a0 Q p0 0) 1 from by rw [ez151, show a0 Q p0 0 = y75 from gd_of ey75]; rfl).trans (cmA_n B (by decide))).trans (crC_lo (by decide)); have hN : v145_2.toInt.toNat < (σ.1.1 1).toInt.toNat := (by rw [← en]; omega); have m157 : z157 = σ.1.1 (19 + 8 * v145_2.toInt.toNat) := ((show z157 = I145 (a0 Q p0 0) (19 + 8 * v145_2.toInt.toNat + 0) from fez157).trans (cmA_n B (by omega))).trans (crC_at (by decide) (Nat.le_refl _)); rw [crC_n (fun hs => t161 (congrArg Int32.toInt (m157.trans hs)))]; exact ⟨hN, B⟩) hP hS (lv_sub hl [0, 1, 2] rfl)
                · have t161 := tq_eq (k := z157.toInt) (q := p1.toInt) c161 rfl rfl
                  refine lv_aload_n hx hb dX7_crop_164 rfl (lv_at hl 0 rfl) ?_
                  refine lv_iload_n hx hb dX7_crop_165 rfl (lv_at hl 2 rfl) ?_
                  refine lv_aload_n hx hb dX7_crop_166 rfl (lv_at hl 0 rfl) ?_
                  refine lv_iload_n hx hb dX7_crop_167 rfl (lv_at hl 1 rfl) ?_
                  refine lv_iload_n hx hb dX7_crop_168 rfl (lv_at hl 2 rfl) ?_
                  refine ro_i (va_runV (As := [.int p1, .int v145_2]) (rest := [.int v145_2, .ref p0]) ⟨hx, hb, hml, hown, hts⟩ (s_X7_leftOf l dC dI cs L K G Q hQ x0 m0 tx tm H.size I145 Jz140 hI145 p0 hLp0 hKp0 p1 ⟨by omega, by omega⟩ v145_2 ⟨by omega, by omega⟩) (cwV 2 hts (gV pq1510 pq1512 pq54 pq81 pq1513) rfl rfl rfl (by decide +kernel) ⟨(by rw [hR]; exact (Nat.le_of_ble_eq_true rfl)), (by rw [hR]; exact (Nat.le_of_ble_eq_true rfl))⟩) (sP_V hP hD hK hN hLp0 hKp0 rfl rfl) rfl rfl hl.1 rfl (lv_room (Nat.le_of_ble_eq_true rfl)) dX7_crop_169 ⟨(by rw [hR]; exact (Nat.le_of_ble_eq_true rfl)), (by rw [hR]; exact (Nat.le_of_ble_eq_true rfl))⟩) hS hP (fun z169 H locs hz169 hP hS => ?_)
                  obtain ⟨bz169, xpz169⟩ := hz169
                  refine lv_aload_n hx hb dX7_crop_172 rfl (lv_at hl 0 rfl) ?_
                  refine lv_iload_n hx hb dX7_crop_173 rfl (lv_at hl 1 rfl) ?_
                  refine lv_iload_n hx hb dX7_crop_174 rfl (lv_at hl 2 rfl) ?_
                  refine ro_i (va_runV (As := [.int p1, .int v145_2]) (rest := [.int z169, .int v145_2, .ref p0]) ⟨hx, hb, hml, hown, hts⟩ (s_X7_aboveOf l dC dI cs L K G Q hQ x0 m0 tx tm H.size I145 Jz140 hI145 p0 hLp0 hKp0 p1 ⟨by omega, by omega⟩ v145_2 ⟨by omega, by omega⟩) (cwV 2 hts (gV pq1514 pq1516 pq55 pq81 pq1517) rfl rfl rfl (by decide +kernel) ⟨(by rw [hR]; exact (Nat.le_of_ble_eq_true rfl)), (by rw [hR]; exact (Nat.le_of_ble_eq_true rfl))⟩) (sP_V hP hD hK hN hLp0 hKp0 rfl rfl) rfl rfl hl.1 rfl (lv_room (Nat.le_of_ble_eq_true rfl)) dX7_crop_175 ⟨(by rw [hR]; exact (Nat.le_of_ble_eq_true rfl)), (by rw [hR]; exact (Nat.le_of_ble_eq_true rfl))⟩) hS hP (fun z175 H locs hz175 hP hS => ?_)
                  obtain ⟨bz175, xpz175⟩ := hz175
                  refine sw_v (Z := (fun I1 J1 => Iv L K x0 m0 tx tm I1 ∧ (∀ b, ¬ (K b = 18) → I1 b = I145 b) ∧ (I1 ((Q p0 0).getD 0) = gU (I145 ((Q p0 0).getD 0)) v145_2.toInt.toNat z169 z175) ∧ (∀ b, K b = 0 ∨ K b = 1 ∨ K b = 3 ∨ K b = 6 → I1 b = I145 b) ∧ (∀ σ : Sx, cmA Q I145 Jz140 p0 σ → cmA Q I1 J1 p0 (gC σ.1 v145_2.toInt.toNat z169 z175, σ.2)) ∧ J1 = Jz140)) (va_runV (As := [.int v145_2, .int z169, .int z175]) (rest := []) ⟨hx, hb, hml, hown, hts⟩ (s_X7_goes l dC dI cs L K G Q hQ x0 m0 tx tm H.size I145 Jz140 hI145 p0 hLp0 hKp0 v145_2 ⟨by omega, by omega⟩ z169 z175 (gB_mono (crM_sum hcr ⟨by omega, by omega⟩ ⟨by omega, by omega⟩ (by omega)) (by omega))) (cwV 3 hts (gV pq1474 pq1476 pq48 pq81 pq1477) rfl rfl rfl (by decide +kernel) ⟨(by rw [hR]; exact (Nat.le_of_ble_eq_true rfl)), (by rw [hR]; exact (Nat.le_of_ble_eq_true rfl))⟩) (sP_V hP hD hK hN hLp0 hKp0 rfl rfl) rfl rfl hl.1 rfl (lv_room (Nat.le_of_ble_eq_true rfl)) dX7_crop_178 ⟨(by rw [hR]; exact (Nat.le_of_ble_eq_true rfl)), (by rw [hR]; exact (Nat.le_of_ble_eq_true rfl))⟩) hS hAL hA (fun Iz178 Jz178 H locs hz178 hIz178 hP hS => ?_)
                  obtain ⟨hIz178, frc178, zp178, dnc178, jz178, djc178⟩ := hIz178
                  obtain rfl : Jz140 = Jz178 := djc178.symm
                  have dn_Iz178 : (∀ b, K b = 0 ∨ K b = 1 ∨ K b = 3 ∨ K b = 6 → Iz178 b = I b) := fun b hc => (dnc178 b (by omega)).trans (dn_I145 b hc)
                  exact j181 Iz178 _ _ _ hIz178 dn_Iz178 (crM_go hcr ⟨by omega, by omega⟩ ⟨by omega, by omega⟩ (by omega) (by omega) zp178) ((frc178 _ (by have := ends_k hQ hLp0 hKp0; omega)).trans he145) (fun σ ok A => by obtain ⟨l, B⟩ := hm145 σ ok A; obtain ⟨hm, A1, -, rr⟩ := rs σ ok A; obtain ⟨nt, eE, ci⟩ := rr t15; have nf := hnf σ ok A; have en : z151 = σ.1.1 1 := ((show z151 = I145 (a0 Q p0 0) 1 from by rw [ez151, show a0 Q p0 0 = y75 from gd_of ey75]; rfl).trans (cmA_n B (by decide))).trans (crC_lo (by decide)); have hN : v145_2.toInt.toNat < (σ.1.1 1).toInt.toNat := (by rw [← en]; omega); have m157 : z157 = σ.1.1 (19 + 8 * v145_2.toInt.toNat) := ((show z157 = I145 (a0 Q p0 0) (19 + 8 * v145_2.toInt.toNat + 0) from fez157).trans (cmA_n B (by omega))).trans (crC_at (by decide) (Nat.le_refl _)); have hs : crSt σ p1 v145_2.toInt.toNat := m157.symm.trans (Int32.toInt_inj.mp t161); have okc := crC_ok (j := v145_2.toInt.toNat) ok ci (fun o ho hs f => nf ⟨o, ho, hs, f⟩) (by omega); have xU : z169 = crU σ p1 v145_2.toInt.toNat := Int32.toInt_inj.mp (by rw [(crU_i ci _).1, xpz169 _ okc (cmA_rI B) (crC_nn hN), he145, crC_at (by decide) (Nat.le_refl _), crC_lo (by omega), eE]); have xV : z175 = crV σ p1 v145_2.toInt.toNat := Int32.toInt_inj.mp (by rw [(crV_i ci _).1, xpz175 _ okc (cmA_rI B) (crC_nn hN), he145, crC_at (by decide) (Nat.le_refl _), crC_lo (by omega), eE]); have D := jz178 _ B; rw [xU, xV] at D; exact ⟨hN, (show crC σ p1 (v145_2.toInt.toNat + 1) = gC (crC σ p1 v145_2.toInt.toNat) v145_2.toInt.toNat (crU σ p1 v145_2.toInt.toNat) (crV σ p1 v145_2.toInt.toNat) from crJ_y hs) ▸ D⟩) hP hS (lv_sub hl [0, 1, 2] rfl))
            exact key145 _ 0 Iz140 _ _ _ rfl ⟨by decide +kernel, by decide +kernel⟩ hIz140 dn_Iz140 (crM_mono cr140 (by rw [show (0 : Int32).toInt = 0 from by decide +kernel]; omega)) (frc140 _ (by have := ends_k hQ hLp0 hKp0; omega)) (fun σ ok A => by have B := jz140 σ (rs σ ok A).2.1; rw [rem_e] at B; rw [show (0 : Int32).toInt.toNat = 0 from by decide +kernel, crC_0]; exact ⟨Nat.zero_le _, B⟩) hP hS (lv_sub hl [1, 2, 0] rfl)
          · have t80 := tq_nle (k := z79.toInt) (q := v73_2.toInt) c80 rfl rfl
            refine lv_aload_n hx hb dX7_crop_83 rfl (lv_at hl 0 rfl) ?_
            refine lv_iload_n hx hb dX7_crop_84 rfl (lv_at hl 2 rfl) ?_
            refine ro_i (va_runV (As := [.int v73_2]) (rest := []) ⟨hx, hb, hml, hown, hts⟩ (s_X7_maskOf l dC dI cs L K G Q hQ x0 m0 tx tm H.size Iz12 J hIz12 p0 hLp0 hKp0 v73_2 ⟨by omega, by omega⟩) (cwV 1 hts (gV pq1431 pq1433 pq41 pq81 pq1434) rfl rfl rfl (by decide +kernel) ⟨(by rw [hR]; exact (Nat.le_of_ble_eq_true rfl)), (by rw [hR]; exact (Nat.le_of_ble_eq_true rfl))⟩) (sP_V hP hD hK hN hLp0 hKp0 rfl rfl) rfl rfl hl.1 rfl (lv_room (Nat.le_of_ble_eq_true rfl)) dX7_crop_85 ⟨(by rw [hR]; exact (Nat.le_of_ble_eq_true rfl)), (by rw [hR]; exact (Nat.le_of_ble_eq_true rfl))⟩) hS hP (fun z85 H locs hz85 hP hS => ?_)
            obtain ⟨bz85, fez85⟩ := hz85
            refine lv_iload_n hx hb dX7_crop_88 rfl (lv_at hl 1 rfl) ?_
            have j133 : ∀ (H : Heap) (lo : List Loc) (ls : Array Slot), (∀ σ : Sx, okF σ.1 → cmA Q I J p0 σ → crSt σ p1 v73_2.toInt.toNat → ¬ crFar σ p1 v73_2.toInt.toNat) → va_P (dC, dI) vwCl (Wd cs L K Iz12 J Q) H → va_S A s.heap H lo → lv_has ls 4 [(0, .ref p0), (1, .int p1), (2, .int v73_2)] → W p l e R s m (([.ref p0, .int p1] : List Value).toArray) below meth c H lo 0 0 Qz (F0 m 133 ls []) := by
              intro H lo ls hc133 hP hS hl
              obtain ⟨z133, ez133⟩ : ∃ y : Int32, y = v73_2 + 1 := ⟨_, rfl⟩
              refine lv_iinc (v := z133) (lv' := [(2, .int z133), (0, .ref p0), (1, .int p1)]) hx hb dX7_crop_133 hl (k := 2) rfl (by rw [ez133]; rfl) (by decide) rfl (fun ls hl => ?_)
              have bz133 := tq_add (k := v73_2.toInt) (q := 1) ez133 rfl (by decide +kernel) (by omega) (by omega)
              refine lv_goto (tgt := 73) hx hb dX7_crop_136 (by decide) ?_
              exact ih73 _ (by omega) z133 _ _ _ rfl ⟨by omega, by omega⟩ (fun σ ok A j hj hs => by by_cases q : j < v73_2.toInt.toNat; (exact hc73 σ ok A j q hs); (obtain rfl : j = v73_2.toInt.toNat := (by omega); exact hc133 σ ok A hs)) hP hS (lv_sub hl [1, 2, 0] rfl)
            refine lv_icmp_ne (tgt := 133) hx hb dX7_crop_89 (by decide) (fun c89 => ?_) (fun c89 => ?_)
            · have t89 := tq_ne (k := z85.toInt) (q := p1.toInt) c89 rfl rfl
              exact j133  _ _ _ (fun σ ok A hs => by obtain ⟨hm, A1, -, rr⟩ := rs σ ok A; obtain ⟨nt, eE, ci⟩ := rr t15; have en : z79 = σ.1.1 1 := (show z79 = Iz12 (a0 Q p0 0) 1 from by rw [ez79, show a0 Q p0 0 = y75 from gd_of ey75]; rfl).trans (cmA_n A1 (by decide)); have hN : v73_2.toInt.toNat < (σ.1.1 1).toInt.toNat := (by rw [← en]; omega); have m85 : z85 = σ.1.1 (19 + 8 * v73_2.toInt.toNat) := (show z85 = Iz12 (a0 Q p0 0) (19 + 8 * v73_2.toInt.toNat) from fez85).trans (cmA_n A1 (by omega)); exact absurd (congrArg Int32.toInt (m85.trans hs)) t89) hP hS (lv_sub hl [0, 1, 2] rfl)
            · have t89 := tq_eq (k := z85.toInt) (q := p1.toInt) c89 rfl rfl
              refine lv_aload_n hx hb dX7_crop_92 rfl (lv_at hl 0 rfl) ?_
              refine lv_iload_n hx hb dX7_crop_93 rfl (lv_at hl 2 rfl) ?_
              refine lv_iconst (v := 1) hx hb dX7_crop_94 (by decide +kernel) ?_
              refine ro_i (va_runV (As := [.int v73_2, .int 1]) (rest := []) ⟨hx, hb, hml, hown, hts⟩ (s_X7_of l dC dI cs L K G Q hQ x0 m0 tx tm H.size Iz12 J hIz12 p0 hLp0 hKp0 v73_2 ⟨by omega, by omega⟩ 1 ⟨by decide +kernel, by decide +kernel⟩) (cwV 2 hts (gV pq1320 pq1322 pq25 pq81 pq1323) rfl rfl rfl (by decide +kernel) ⟨(by rw [hR]; exact (Nat.le_of_ble_eq_true rfl)), (by rw [hR]; exact (Nat.le_of_ble_eq_true rfl))⟩) (sP_V hP hD hK hN hLp0 hKp0 rfl rfl) rfl rfl hl.1 rfl (lv_room (Nat.le_of_ble_eq_true rfl)) dX7_crop_95 ⟨(by rw [hR]; exact (Nat.le_of_ble_eq_true rfl)), (by rw [hR]; exact (Nat.le_of_ble_eq_true rfl))⟩) hS hP (fun z95 H locs hz95 hP hS => ?_)
              have cst95_1 : (1 : Int32).toInt = 1 := by decide +kernel
              obtain ⟨fez95, xpz95⟩ := hz95
              have bz95 := xpz95.2.1 rfl
              refine lv_aload_n hx hb dX7_crop_98 rfl (lv_at hl 0 rfl) ?_
              refine lv_iload_n hx hb dX7_crop_99 rfl (lv_at hl 1 rfl) ?_
              refine lv_iload_n hx hb dX7_crop_100 rfl (lv_at hl 2 rfl) ?_
              refine ro_i (va_runV (As := [.int p1, .int v73_2]) (rest := [.int z95]) ⟨hx, hb, hml, hown, hts⟩ (s_X7_leftOf l dC dI cs L K G Q hQ x0 m0 tx tm H.size Iz12 J hIz12 p0 hLp0 hKp0 p1 ⟨by omega, by omega⟩ v73_2 ⟨by omega, by omega⟩) (cwV 2 hts (gV pq1510 pq1512 pq54 pq81 pq1513) rfl rfl rfl (by decide +kernel) ⟨(by rw [hR]; exact (Nat.le_of_ble_eq_true rfl)), (by rw [hR]; exact (Nat.le_of_ble_eq_true rfl))⟩) (sP_V hP hD hK hN hLp0 hKp0 rfl rfl) rfl rfl hl.1 rfl (lv_room (Nat.le_of_ble_eq_true rfl)) dX7_crop_101 ⟨(by rw [hR]; exact (Nat.le_of_ble_eq_true rfl)), (by rw [hR]; exact (Nat.le_of_ble_eq_true rfl))⟩) hS hP (fun z101 H locs hz101 hP hS => ?_)
              obtain ⟨bz101, xpz101⟩ := hz101
              refine lv_iadd hx hb dX7_crop_104 ?_
              refine lv_topi (fun z104 ez104 => ?_)
              have bz104 := tq_add (k := z95.toInt) (q := z101.toInt) ez104 rfl rfl (by omega) (by omega)
              refine lv_sipush (v := 999) hx hb dX7_crop_105 (by decide +kernel) ?_
              refine lv_icmp_gt (tgt := 130) hx hb dX7_crop_108 (by decide) (fun c108 => ?_) (fun c108 => ?_)
              · have t108 := tq_lt (k := (999)) (q := z104.toInt) c108 (by decide +kernel) rfl
                refine lv_bipush (v := (-3)) hx hb dX7_crop_130 (by decide +kernel) ?_
                subst hR; subst hQz
                exact W.iret (v := (-3)) hx hb hr (fun t ht hW => ⟨⟨(-3), (), rfl, (fun σ ok A => by rw [cr_f (rs σ ok A).1 (hne σ ok A) (by obtain ⟨hm, A1, -, rr⟩ := rs σ ok A; obtain ⟨nt, eE, ci⟩ := rr t15; have en : z79 = σ.1.1 1 := (show z79 = Iz12 (a0 Q p0 0) 1 from by rw [ez79, show a0 Q p0 0 = y75 from gd_of ey75]; rfl).trans (cmA_n A1 (by decide)); have hN : v73_2.toInt.toNat < (σ.1.1 1).toInt.toNat := (by rw [← en]; omega); have m85 : z85 = σ.1.1 (19 + 8 * v73_2.toInt.toNat) := (show z85 = Iz12 (a0 Q p0 0) (19 + 8 * v73_2.toInt.toNat) from fez85).trans (cmA_n A1 (by omega)); exact ⟨v73_2.toInt.toNat, hN, m85.symm.trans (Int32.toInt_inj.mp t89), by have xU : (crU σ p1 v73_2.toInt.toNat).toInt = z101.toInt := (by rw [(crU_i ci _).1, xpz101 σ.1 ok (cmA_rI A1) hN, eE]); have xb : bX σ.1 v73_2.toInt.toNat = z95.toInt := (congrArg Int32.toInt ((show z95 = Iz12 (a0 Q p0 0) (19 + 8 * v73_2.toInt.toNat + 1) from fez95).trans (cmA_n A1 (by omega)))).symm; first | (refine Or.inl ?_; rw [xU, xb]; omega) | (have xV : (crV σ p1 v73_2.toInt.toNat).toInt = z120.toInt := (by rw [(crV_i ci _).1, xpz120 σ.1 ok (cmA_rI A1) hN, eE]); have yb : bY σ.1 v73_2.toInt.toNat = z114.toInt := (congrArg Int32.toInt ((show z114 = Iz12 (a0 Q p0 0) (19 + 8 * v73_2.toInt.toNat + 2) from fez114).trans (cmA_n A1 (by omega)))).symm; refine Or.inr ?_; rw [xV, yb]; omega)⟩)]; show (-3 : Int32).toInt = -3; decide +kernel), ⟨Iz12, J, ⟨hIz12, dn_Iz12, (fun σ ok A => by rw [cr_f (rs σ ok A).1 (hne σ ok A) (by obtain ⟨hm, A1, -, rr⟩ := rs σ ok A; obtain ⟨nt, eE, ci⟩ := rr t15; have en : z79 = σ.1.1 1 := (show z79 = Iz12 (a0 Q p0 0) 1 from by rw [ez79, show a0 Q p0 0 = y75 from gd_of ey75]; rfl).trans (cmA_n A1 (by decide)); have hN : v73_2.toInt.toNat < (σ.1.1 1).toInt.toNat := (by rw [← en]; omega); have m85 : z85 = σ.1.1 (19 + 8 * v73_2.toInt.toNat) := (show z85 = Iz12 (a0 Q p0 0) (19 + 8 * v73_2.toInt.toNat) from fez85).trans (cmA_n A1 (by omega)); exact ⟨v73_2.toInt.toNat, hN, m85.symm.trans (Int32.toInt_inj.mp t89), by have xU : (crU σ p1 v73_2.toInt.toNat).toInt = z101.toInt := (by rw [(crU_i ci _).1, xpz101 σ.1 ok (cmA_rI A1) hN, eE]); have xb : bX σ.1 v73_2.toInt.toNat = z95.toInt := (congrArg Int32.toInt ((show z95 = Iz12 (a0 Q p0 0) (19 + 8 * v73_2.toInt.toNat + 1) from fez95).trans (cmA_n A1 (by omega)))).symm; first | (refine Or.inl ?_; rw [xU, xb]; omega) | (have xV : (crV σ p1 v73_2.toInt.toNat).toInt = z120.toInt := (by rw [(crV_i ci _).1, xpz120 σ.1 ok (cmA_rI A1) hN, eE]); have yb : bY σ.1 v73_2.toInt.toNat = z114.toInt := (congrArg Int32.toInt ((show z114 = Iz12 (a0 Q p0 0) (19 + 8 * v73_2.toInt.toNat + 2) from fez114).trans (cmA_n A1 (by omega)))).symm; refine Or.inr ?_; rw [xV, yb]; omega)⟩)]; exact (rs σ ok A).2.1), dj_J⟩, by rw [ht]; exact hP⟩⟩, hS.F ht⟩) hS.2.2 dX7_crop_132
              · have t108 := tq_nlt (k := (999)) (q := z104.toInt) c108 (by decide +kernel) rfl
                refine lv_aload_n hx hb dX7_crop_111 rfl (lv_at hl 0 rfl) ?_
                refine lv_iload_n hx hb dX7_crop_112 rfl (lv_at hl 2 rfl) ?_
                refine lv_iconst (v := 2) hx hb dX7_crop_113 (by decide +kernel) ?_
                refine ro_i (va_runV (As := [.int v73_2, .int 2]) (rest := []) ⟨hx, hb, hml, hown, hts⟩ (s_X7_of l dC dI cs L K G Q hQ x0 m0 tx tm H.size Iz12 J hIz12 p0 hLp0 hKp0 v73_2 ⟨by omega, by omega⟩ 2 ⟨by decide +kernel, by decide +kernel⟩) (cwV 2 hts (gV pq1320 pq1322 pq25 pq81 pq1323) rfl rfl rfl (by decide +kernel) ⟨(by rw [hR]; exact (Nat.le_of_ble_eq_true rfl)), (by rw [hR]; exact (Nat.le_of_ble_eq_true rfl))⟩) (sP_V hP hD hK hN hLp0 hKp0 rfl rfl) rfl rfl hl.1 rfl (lv_room (Nat.le_of_ble_eq_true rfl)) dX7_crop_114 ⟨(by rw [hR]; exact (Nat.le_of_ble_eq_true rfl)), (by rw [hR]; exact (Nat.le_of_ble_eq_true rfl))⟩) hS hP (fun z114 H locs hz114 hP hS => ?_)
                have cst114_2 : (2 : Int32).toInt = 2 := by decide +kernel
                obtain ⟨fez114, xpz114⟩ := hz114
                have bz114 := xpz114.2.2.1 rfl
                refine lv_aload_n hx hb dX7_crop_117 rfl (lv_at hl 0 rfl) ?_
                refine lv_iload_n hx hb dX7_crop_118 rfl (lv_at hl 1 rfl) ?_
                refine lv_iload_n hx hb dX7_crop_119 rfl (lv_at hl 2 rfl) ?_
                refine ro_i (va_runV (As := [.int p1, .int v73_2]) (rest := [.int z114]) ⟨hx, hb, hml, hown, hts⟩ (s_X7_aboveOf l dC dI cs L K G Q hQ x0 m0 tx tm H.size Iz12 J hIz12 p0 hLp0 hKp0 p1 ⟨by omega, by omega⟩ v73_2 ⟨by omega, by omega⟩) (cwV 2 hts (gV pq1514 pq1516 pq55 pq81 pq1517) rfl rfl rfl (by decide +kernel) ⟨(by rw [hR]; exact (Nat.le_of_ble_eq_true rfl)), (by rw [hR]; exact (Nat.le_of_ble_eq_true rfl))⟩) (sP_V hP hD hK hN hLp0 hKp0 rfl rfl) rfl rfl hl.1 rfl (lv_room (Nat.le_of_ble_eq_true rfl)) dX7_crop_120 ⟨(by rw [hR]; exact (Nat.le_of_ble_eq_true rfl)), (by rw [hR]; exact (Nat.le_of_ble_eq_true rfl))⟩) hS hP (fun z120 H locs hz120 hP hS => ?_)
                obtain ⟨bz120, xpz120⟩ := hz120
                refine lv_iadd hx hb dX7_crop_123 ?_
                refine lv_topi (fun z123 ez123 => ?_)
                have bz123 := tq_add (k := z114.toInt) (q := z120.toInt) ez123 rfl rfl (by omega) (by omega)
                refine lv_sipush (v := 999) hx hb dX7_crop_124 (by decide +kernel) ?_
                refine lv_icmp_le (tgt := 133) hx hb dX7_crop_127 (by decide) (fun c127 => ?_) (fun c127 => ?_)
                · have t127 := tq_le (k := z123.toInt) (q := (999)) c127 rfl (by decide +kernel)
                  exact j133  _ _ _ (fun σ ok A hs hf => by obtain ⟨hm, A1, -, rr⟩ := rs σ ok A; obtain ⟨nt, eE, ci⟩ := rr t15; have en : z79 = σ.1.1 1 := (show z79 = Iz12 (a0 Q p0 0) 1 from by rw [ez79, show a0 Q p0 0 = y75 from gd_of ey75]; rfl).trans (cmA_n A1 (by decide)); have hN : v73_2.toInt.toNat < (σ.1.1 1).toInt.toNat := (by rw [← en]; omega); have m85 : z85 = σ.1.1 (19 + 8 * v73_2.toInt.toNat) := (show z85 = Iz12 (a0 Q p0 0) (19 + 8 * v73_2.toInt.toNat) from fez85).trans (cmA_n A1 (by omega)); have xU : (crU σ p1 v73_2.toInt.toNat).toInt = z101.toInt := (by rw [(crU_i ci _).1, xpz101 σ.1 ok (cmA_rI A1) hN, eE]); have xb : bX σ.1 v73_2.toInt.toNat = z95.toInt := (congrArg Int32.toInt ((show z95 = Iz12 (a0 Q p0 0) (19 + 8 * v73_2.toInt.toNat + 1) from fez95).trans (cmA_n A1 (by omega)))).symm; have xV : (crV σ p1 v73_2.toInt.toNat).toInt = z120.toInt := (by rw [(crV_i ci _).1, xpz120 σ.1 ok (cmA_rI A1) hN, eE]); have yb : bY σ.1 v73_2.toInt.toNat = z114.toInt := (congrArg Int32.toInt ((show z114 = Iz12 (a0 Q p0 0) (19 + 8 * v73_2.toInt.toNat + 2) from fez114).trans (cmA_n A1 (by omega)))).symm; unfold crFar at hf; rw [xU, xb, xV, yb] at hf; omega) hP hS (lv_sub hl [0, 1, 2] rfl)
                · have t127 := tq_nle (k := z123.toInt) (q := (999)) c127 rfl (by decide +kernel)
                  refine lv_bipush (v := (-3)) hx hb dX7_crop_130 (by decide +kernel) ?_
                  subst hR; subst hQz
                  exact W.iret (v := (-3)) hx hb hr (fun t ht hW => ⟨⟨(-3), (), rfl, (fun σ ok A => by rw [cr_f (rs σ ok A).1 (hne σ ok A) (by obtain ⟨hm, A1, -, rr⟩ := rs σ ok A; obtain ⟨nt, eE, ci⟩ := rr t15; have en : z79 = σ.1.1 1 := (show z79 = Iz12 (a0 Q p0 0) 1 from by rw [ez79, show a0 Q p0 0 = y75 from gd_of ey75]; rfl).trans (cmA_n A1 (by decide)); have hN : v73_2.toInt.toNat < (σ.1.1 1).toInt.toNat := (by rw [← en]; omega); have m85 : z85 = σ.1.1 (19 + 8 * v73_2.toInt.toNat) := (show z85 = Iz12 (a0 Q p0 0) (19 + 8 * v73_2.toInt.toNat) from fez85).trans (cmA_n A1 (by omega)); exact ⟨v73_2.toInt.toNat, hN, m85.symm.trans (Int32.toInt_inj.mp t89), by have xU : (crU σ p1 v73_2.toInt.toNat).toInt = z101.toInt := (by rw [(crU_i ci _).1, xpz101 σ.1 ok (cmA_rI A1) hN, eE]); have xb : bX σ.1 v73_2.toInt.toNat = z95.toInt := (congrArg Int32.toInt ((show z95 = Iz12 (a0 Q p0 0) (19 + 8 * v73_2.toInt.toNat + 1) from fez95).trans (cmA_n A1 (by omega)))).symm; first | (refine Or.inl ?_; rw [xU, xb]; omega) | (have xV : (crV σ p1 v73_2.toInt.toNat).toInt = z120.toInt := (by rw [(crV_i ci _).1, xpz120 σ.1 ok (cmA_rI A1) hN, eE]); have yb : bY σ.1 v73_2.toInt.toNat = z114.toInt := (congrArg Int32.toInt ((show z114 = Iz12 (a0 Q p0 0) (19 + 8 * v73_2.toInt.toNat + 2) from fez114).trans (cmA_n A1 (by omega)))).symm; refine Or.inr ?_; rw [xV, yb]; omega)⟩)]; show (-3 : Int32).toInt = -3; decide +kernel), ⟨Iz12, J, ⟨hIz12, dn_Iz12, (fun σ ok A => by rw [cr_f (rs σ ok A).1 (hne σ ok A) (by obtain ⟨hm, A1, -, rr⟩ := rs σ ok A; obtain ⟨nt, eE, ci⟩ := rr t15; have en : z79 = σ.1.1 1 := (show z79 = Iz12 (a0 Q p0 0) 1 from by rw [ez79, show a0 Q p0 0 = y75 from gd_of ey75]; rfl).trans (cmA_n A1 (by decide)); have hN : v73_2.toInt.toNat < (σ.1.1 1).toInt.toNat := (by rw [← en]; omega); have m85 : z85 = σ.1.1 (19 + 8 * v73_2.toInt.toNat) := (show z85 = Iz12 (a0 Q p0 0) (19 + 8 * v73_2.toInt.toNat) from fez85).trans (cmA_n A1 (by omega)); exact ⟨v73_2.toInt.toNat, hN, m85.symm.trans (Int32.toInt_inj.mp t89), by have xU : (crU σ p1 v73_2.toInt.toNat).toInt = z101.toInt := (by rw [(crU_i ci _).1, xpz101 σ.1 ok (cmA_rI A1) hN, eE]); have xb : bX σ.1 v73_2.toInt.toNat = z95.toInt := (congrArg Int32.toInt ((show z95 = Iz12 (a0 Q p0 0) (19 + 8 * v73_2.toInt.toNat + 1) from fez95).trans (cmA_n A1 (by omega)))).symm; first | (refine Or.inl ?_; rw [xU, xb]; omega) | (have xV : (crV σ p1 v73_2.toInt.toNat).toInt = z120.toInt := (by rw [(crV_i ci _).1, xpz120 σ.1 ok (cmA_rI A1) hN, eE]); have yb : bY σ.1 v73_2.toInt.toNat = z114.toInt := (congrArg Int32.toInt ((show z114 = Iz12 (a0 Q p0 0) (19 + 8 * v73_2.toInt.toNat + 2) from fez114).trans (cmA_n A1 (by omega)))).symm; refine Or.inr ?_; rw [xV, yb]; omega)⟩)]; exact (rs σ ok A).2.1), dj_J⟩, by rw [ht]; exact hP⟩⟩, hS.F ht⟩) hS.2.2 dX7_crop_132)
        exact key73 _ 0 _ _ _ rfl ⟨by decide +kernel, by decide +kernel⟩ (fun σ ok A j hj => absurd hj (by rw [show (0 : Int32).toInt.toNat = 0 from by decide +kernel]; omega)) hP hS (lv_sub hl [1, 2, 0] rfl)
      refine lv_if_ne (tgt := 71) hx hb dX7_crop_24 (by decide) (fun c24 => ?_) (fun c24 => ?_)
      · have t24 := tq_ne (k := z23.toInt) (q := (0)) c24 rfl (by decide +kernel)
        exact j71  _ _ _ (fun σ ok A => by obtain ⟨hm, A1, -, rr⟩ := rs σ ok A; obtain ⟨nt, eE, ci⟩ := rr t15; rw [show a0 Q p0 20 = y19 from gd_of ey19] at eE; have cb := ci.1; have w1 := ci.2.1; have w2 := ci.2.2.1; rw [eE] at cb w1 w2; rintro (q | ⟨q1, q2⟩); (exact nt q); (rw [eE] at q1 q2; dsimp only at cb q1 q2; omega)) hP hS (lv_sub hl [0, 1] rfl)
      · have t24 := tq_eq (k := z23.toInt) (q := (0)) c24 rfl (by decide +kernel)
        refine lv_aload_n hx hb dX7_crop_27 rfl (lv_at hl 0 rfl) ?_
        refine p_get (v := .ref y19) hx hb hts inX7 hown hK hP hLp0 hKp0 rfl rfl 20 (by decide) (hts _ pq1135) (congrArg (fun q => some (va_rf q)) ey19) dX7_crop_28 ?_
        refine lv_iconst (v := 1) hx hb dX7_crop_31 (by decide +kernel) ?_
        refine p_iald hx hb hK hP 16 hLy19 hKy19 rfl rfl (in_d (by decide +kernel)) dX7_crop_32 ?_
        refine lv_topi (fun z32 ez32 => ?_)
        have bz32 := oR_26 (i := (1 : Int32)) (k := (1)) (by decide +kernel) (Iv_at hIz12 hLy19 hKy19)
        rw [← ez32] at bz32
        have cq1 : z32.toInt = (Iz12 y19 1).toInt := congrArg Int32.toInt ez32
        refine lv_if_ne (tgt := 71) hx hb dX7_crop_33 (by decide) (fun c33 => ?_) (fun c33 => ?_)
        · have t33 := tq_ne (k := z32.toInt) (q := (0)) c33 rfl (by decide +kernel)
          exact j71  _ _ _ (fun σ ok A => by obtain ⟨hm, A1, -, rr⟩ := rs σ ok A; obtain ⟨nt, eE, ci⟩ := rr t15; rw [show a0 Q p0 20 = y19 from gd_of ey19] at eE; have cb := ci.1; have w1 := ci.2.1; have w2 := ci.2.2.1; rw [eE] at cb w1 w2; rintro (q | ⟨q1, q2⟩); (exact nt q); (rw [eE] at q1 q2; dsimp only at cb q1 q2; omega)) hP hS (lv_sub hl [0, 1] rfl)
        · have t33 := tq_eq (k := z32.toInt) (q := (0)) c33 rfl (by decide +kernel)
          refine lv_aload_n hx hb dX7_crop_36 rfl (lv_at hl 0 rfl) ?_
          refine p_get (v := .ref y19) hx hb hts inX7 hown hK hP hLp0 hKp0 rfl rfl 20 (by decide) (hts _ pq1135) (congrArg (fun q => some (va_rf q)) ey19) dX7_crop_37 ?_
          refine lv_iconst (v := 2) hx hb dX7_crop_40 (by decide +kernel) ?_
          refine p_iald hx hb hK hP 16 hLy19 hKy19 rfl rfl (in_d (by decide +kernel)) dX7_crop_41 ?_
          refine lv_topi (fun z41 ez41 => ?_)
          have bz41 := oR_26 (i := (2 : Int32)) (k := (2)) (by decide +kernel) (Iv_at hIz12 hLy19 hKy19)
          rw [← ez41] at bz41
          refine lv_aload_n hx hb dX7_crop_42 rfl (lv_at hl 0 rfl) ?_
          refine lv_iload_n hx hb dX7_crop_43 rfl (lv_at hl 1 rfl) ?_
          refine ro_i (va_runV (As := [.int p1]) (rest := [.int z41]) ⟨hx, hb, hml, hown, hts⟩ (s_X7_wide l dC dI cs L K G Q hQ x0 m0 tx tm H.size Iz12 J hIz12 p0 hLp0 hKp0 p1 ⟨by omega, by omega⟩) (cwV 1 hts (gV pq1368 pq1370 pq32 pq81 pq1371) rfl rfl rfl (by decide +kernel) ⟨(by rw [hR]; exact (Nat.le_of_ble_eq_true rfl)), (by rw [hR]; exact (Nat.le_of_ble_eq_true rfl))⟩) (sP_V hP hD hK hN hLp0 hKp0 rfl rfl) rfl rfl hl.1 rfl (lv_room (Nat.le_of_ble_eq_true rfl)) dX7_crop_44 ⟨(by rw [hR]; exact (Nat.le_of_ble_eq_true rfl)), (by rw [hR]; exact (Nat.le_of_ble_eq_true rfl))⟩) hS hP (fun z44 H locs hz44 hP hS => ?_)
          obtain ⟨bz44, fez44⟩ := hz44
          refine lv_iconst (v := 1) hx hb dX7_crop_47 (by decide +kernel) ?_
          refine lv_isub hx hb dX7_crop_48 ?_
          refine lv_topi (fun z48 ez48 => ?_)
          have bz48 := tq_sub (k := z44.toInt) (q := (1)) ez48 rfl (by decide +kernel) (by omega) (by omega)
          have cq2 : z41.toInt = (Iz12 y19 2).toInt := congrArg Int32.toInt ez41
          refine lv_icmp_ne (tgt := 71) hx hb dX7_crop_49 (by decide) (fun c49 => ?_) (fun c49 => ?_)
          · have t49 := tq_ne (k := z41.toInt) (q := z48.toInt) c49 rfl rfl
            exact j71  _ _ _ (fun σ ok A => by obtain ⟨hm, A1, -, rr⟩ := rs σ ok A; obtain ⟨nt, eE, ci⟩ := rr t15; rw [show a0 Q p0 20 = y19 from gd_of ey19] at eE; have cb := ci.1; have w1 := ci.2.1; have w2 := ci.2.2.1; rw [eE] at cb w1 w2; rintro (q | ⟨q1, q2⟩); (exact nt q); (rw [eE] at q1 q2; have e44 : z44 = mW σ p1 := (show z44 = Iz12 (a0 Q p0 0) (3 + p1.toInt.toNat) from fez44).trans (cmA_n A1 (by omega)); rw [← e44] at cb q1; dsimp only at cb q1 q2; omega)) hP hS (lv_sub hl [0, 1] rfl)
          · have t49 := tq_eq (k := z41.toInt) (q := z48.toInt) c49 rfl rfl
            refine lv_aload_n hx hb dX7_crop_52 rfl (lv_at hl 0 rfl) ?_
            refine p_get (v := .ref y19) hx hb hts inX7 hown hK hP hLp0 hKp0 rfl rfl 20 (by decide) (hts _ pq1135) (congrArg (fun q => some (va_rf q)) ey19) dX7_crop_53 ?_
            refine lv_iconst (v := 3) hx hb dX7_crop_56 (by decide +kernel) ?_
            refine p_iald hx hb hK hP 16 hLy19 hKy19 rfl rfl (in_d (by decide +kernel)) dX7_crop_57 ?_
            refine lv_topi (fun z57 ez57 => ?_)
            have bz57 := oR_26 (i := (3 : Int32)) (k := (3)) (by decide +kernel) (Iv_at hIz12 hLy19 hKy19)
            rw [← ez57] at bz57
            refine lv_aload_n hx hb dX7_crop_58 rfl (lv_at hl 0 rfl) ?_
            refine lv_iload_n hx hb dX7_crop_59 rfl (lv_at hl 1 rfl) ?_
            refine ro_i (va_runV (As := [.int p1]) (rest := [.int z57]) ⟨hx, hb, hml, hown, hts⟩ (s_X7_high l dC dI cs L K G Q hQ x0 m0 tx tm H.size Iz12 J hIz12 p0 hLp0 hKp0 p1 ⟨by omega, by omega⟩) (cwV 1 hts (gV pq1372 pq1374 pq33 pq81 pq1375) rfl rfl rfl (by decide +kernel) ⟨(by rw [hR]; exact (Nat.le_of_ble_eq_true rfl)), (by rw [hR]; exact (Nat.le_of_ble_eq_true rfl))⟩) (sP_V hP hD hK hN hLp0 hKp0 rfl rfl) rfl rfl hl.1 rfl (lv_room (Nat.le_of_ble_eq_true rfl)) dX7_crop_60 ⟨(by rw [hR]; exact (Nat.le_of_ble_eq_true rfl)), (by rw [hR]; exact (Nat.le_of_ble_eq_true rfl))⟩) hS hP (fun z60 H locs hz60 hP hS => ?_)
            obtain ⟨bz60, fez60⟩ := hz60
            refine lv_iconst (v := 1) hx hb dX7_crop_63 (by decide +kernel) ?_
            refine lv_isub hx hb dX7_crop_64 ?_
            refine lv_topi (fun z64 ez64 => ?_)
            have bz64 := tq_sub (k := z60.toInt) (q := (1)) ez64 rfl (by decide +kernel) (by omega) (by omega)
            have cq3 : z57.toInt = (Iz12 y19 3).toInt := congrArg Int32.toInt ez57
            refine lv_icmp_ne (tgt := 71) hx hb dX7_crop_65 (by decide) (fun c65 => ?_) (fun c65 => ?_)
            · have t65 := tq_ne (k := z57.toInt) (q := z64.toInt) c65 rfl rfl
              exact j71  _ _ _ (fun σ ok A => by obtain ⟨hm, A1, -, rr⟩ := rs σ ok A; obtain ⟨nt, eE, ci⟩ := rr t15; rw [show a0 Q p0 20 = y19 from gd_of ey19] at eE; have cb := ci.1; have w1 := ci.2.1; have w2 := ci.2.2.1; rw [eE] at cb w1 w2; rintro (q | ⟨q1, q2⟩); (exact nt q); (rw [eE] at q1 q2; have e60 : z60 = mH σ p1 := (show z60 = Iz12 (a0 Q p0 0) (11 + p1.toInt.toNat) from fez60).trans (cmA_n A1 (by omega)); rw [← e60] at cb q2; dsimp only at cb q1 q2; omega)) hP hS (lv_sub hl [0, 1] rfl)
            · have t65 := tq_eq (k := z57.toInt) (q := z64.toInt) c65 rfl rfl
              refine lv_bipush (v := (-2)) hx hb dX7_crop_68 (by decide +kernel) ?_
              subst hR; subst hQz
              exact W.iret (v := (-2)) hx hb hr (fun t ht hW => ⟨⟨(-2), (), rfl, (fun σ ok A => by rw [cr_e (rs σ ok A).1 (by first | exact Or.inl ((rs σ ok A).2.2.1 t15) | exact (by obtain ⟨hm, A1, -, rr⟩ := rs σ ok A; obtain ⟨nt, eE, ci⟩ := rr t15; rw [show a0 Q p0 20 = y19 from gd_of ey19] at eE; have cb := ci.1; have w1 := ci.2.1; have w2 := ci.2.2.1; rw [eE] at cb w1 w2; have e44 : z44 = mW σ p1 := (show z44 = Iz12 (a0 Q p0 0) (3 + p1.toInt.toNat) from fez44).trans (cmA_n A1 (by omega)); have e60 : z60 = mH σ p1 := (show z60 = Iz12 (a0 Q p0 0) (11 + p1.toInt.toNat) from fez60).trans (cmA_n A1 (by omega)); rw [← e44, ← e60] at cb; refine Or.inr ⟨?_, ?_⟩; (rw [eE, ← e44]; dsimp only at cb ⊢; omega); (rw [eE, ← e60]; dsimp only at cb ⊢; omega)))]; show (-2 : Int32).toInt = -2; decide +kernel), ⟨Iz12, J, ⟨hIz12, dn_Iz12, (fun σ ok A => by rw [cr_e (rs σ ok A).1 (by first | exact Or.inl ((rs σ ok A).2.2.1 t15) | exact (by obtain ⟨hm, A1, -, rr⟩ := rs σ ok A; obtain ⟨nt, eE, ci⟩ := rr t15; rw [show a0 Q p0 20 = y19 from gd_of ey19] at eE; have cb := ci.1; have w1 := ci.2.1; have w2 := ci.2.2.1; rw [eE] at cb w1 w2; have e44 : z44 = mW σ p1 := (show z44 = Iz12 (a0 Q p0 0) (3 + p1.toInt.toNat) from fez44).trans (cmA_n A1 (by omega)); have e60 : z60 = mH σ p1 := (show z60 = Iz12 (a0 Q p0 0) (11 + p1.toInt.toNat) from fez60).trans (cmA_n A1 (by omega)); rw [← e44, ← e60] at cb; refine Or.inr ⟨?_, ?_⟩; (rw [eE, ← e44]; dsimp only at cb ⊢; omega); (rw [eE, ← e60]; dsimp only at cb ⊢; omega)))]; exact (rs σ ok A).2.1), dj_J⟩, by rw [ht]; exact hP⟩⟩, hS.F ht⟩) hS.2.2 dX7_crop_70
  · have t5 := tq_eq (k := z2.toInt) (q := (0)) c5 rfl (by decide +kernel)
    refine lv_iconst (v := (-1)) hx hb dX7_crop_8 (by decide +kernel) ?_
    subst hR; subst hQz
    exact W.iret (v := (-1)) hx hb hr (fun t ht hW => ⟨⟨(-1), (), rfl, (fun σ ok A => by have ec : I (a0 Q p0 0) 0 = σ.1.1 0 := cmA_n A (by decide); rw [cr_n (fun q => xpz2.2 t5 (by rw [ec]; exact q))]; show (-1 : Int32).toInt = -1; decide +kernel), ⟨I, J, ⟨hI, dn_I, (fun σ ok A => by have ec : I (a0 Q p0 0) 0 = σ.1.1 0 := cmA_n A (by decide); rw [cr_n (fun q => xpz2.2 t5 (by rw [ec]; exact q))]; exact A), dj_J⟩, by rw [ht]; exact hP⟩⟩, hS.F ht⟩) hS.2.2 dX7_crop_9
