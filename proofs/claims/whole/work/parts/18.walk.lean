/-! NewsWireModel.piece(IIII)I -/
theorem fl_m11_149 : FL "NewsWireModel" 149 11 15 0 false .int := ⟨_, _, _, _, rfl, in_c11, ty_c11, nm_c11, by decide, rfl, tw_i 880 (by decide +kernel), rfl, rfl, rfl, rfl⟩
theorem fl_m11_28 : FL "NewsWireModel" 28 11 9 2 true (.array .int) := ⟨_, _, _, _, rfl, in_c11, ty_c11, nm_c11, by decide, rfl, tw_i 874 (by decide +kernel), rfl, rfl, rfl, rfl⟩
theorem fl_m11_31 : FL "NewsWireModel" 31 11 10 2 true (.array .int) := ⟨_, _, _, _, rfl, in_c11, ty_c11, nm_c11, by decide, rfl, tw_i 875 (by decide +kernel), rfl, rfl, rfl, rfl⟩
theorem fl_m11_34 : FL "NewsWireModel" 34 11 11 2 true (.array .int) := ⟨_, _, _, _, rfl, in_c11, ty_c11, nm_c11, by decide, rfl, tw_i 876 (by decide +kernel), rfl, rfl, rfl, rfl⟩
theorem fl_m11_37 : FL "NewsWireModel" 37 11 12 2 true (.array .int) := ⟨_, _, _, _, rfl, in_c11, ty_c11, nm_c11, by decide, rfl, tw_i 877 (by decide +kernel), rfl, rfl, rfl, rfl⟩
theorem fl_m11_40 : FL "NewsWireModel" 40 11 13 2 true (.array .int) := ⟨_, _, _, _, rfl, in_c11, ty_c11, nm_c11, by decide, rfl, tw_i 878 (by decide +kernel), rfl, rfl, rfl, rfl⟩
theorem fl_m11_82 : FL "NewsWireModel" 82 11 34 2 true (.array .int) := ⟨_, _, _, _, rfl, in_c11, ty_c11, nm_c11, by decide, rfl, tw_i 899 (by decide +kernel), rfl, rfl, rfl, rfl⟩
theorem fl_m11_91 : FL "NewsWireModel" 91 11 37 2 true (.array .int) := ⟨_, _, _, _, rfl, in_c11, ty_c11, nm_c11, by decide, rfl, tw_i 902 (by decide +kernel), rfl, rfl, rfl, rfl⟩
theorem fl_m11_43 : FL "NewsWireModel" 43 11 14 2 true (.array .int) := ⟨_, _, _, _, rfl, in_c11, ty_c11, nm_c11, by decide, rfl, tw_i 879 (by decide +kernel), rfl, rfl, rfl, rfl⟩
theorem fl_m11_46 : FL "NewsWireModel" 46 11 16 2 true (.array .int) := ⟨_, _, _, _, rfl, in_c11, ty_c11, nm_c11, by decide, rfl, tw_i 881 (by decide +kernel), rfl, rfl, rfl, rfl⟩
abbrev b_m11_piece : ByteArray := prog_13_method_11_code
def y_m11_piece : MethodName := ⟨"NewsWireModel", "piece", "(IIII)I"⟩
def rm_m11_piece : Room := { frames := 3, cells := 0, slots := 0, locals := 103 }
theorem cw_m11_piece : CW y_m11_piece b_m11_piece 10 (some .int) 4 := ⟨tw_i 66 (by decide +kernel), tw_i 1059 (by decide +kernel), by decide, by decide, by decide +kernel⟩
theorem d_m11_piece_0 : decode b_m11_piece 0 = .ok (.aload_n 0, 1) := by decide +kernel
theorem d_m11_piece_1 : decode b_m11_piece 1 = .ok (.getfield 149, 3) := by decide +kernel
theorem d_m11_piece_4 : decode b_m11_piece 4 = .ok (.ifCond .ne 10, 3) := by decide +kernel
theorem d_m11_piece_7 : decode b_m11_piece 7 = .ok (.aload_n 0, 1) := by decide +kernel
theorem d_m11_piece_8 : decode b_m11_piece 8 = .ok (.bipush (-2), 2) := by decide +kernel
theorem d_m11_piece_10 : decode b_m11_piece 10 = .ok (.invokevirtual 139, 3) := by decide +kernel
theorem d_m11_piece_13 : decode b_m11_piece 13 = .ok (.ireturn, 1) := by decide +kernel
theorem d_m11_piece_14 : decode b_m11_piece 14 = .ok (.iload_n 1, 1) := by decide +kernel
theorem d_m11_piece_15 : decode b_m11_piece 15 = .ok (.bipush 100, 2) := by decide +kernel
theorem d_m11_piece_17 : decode b_m11_piece 17 = .ok (.idiv, 1) := by decide +kernel
theorem d_m11_piece_18 : decode b_m11_piece 18 = .ok (.istore 5, 2) := by decide +kernel
theorem d_m11_piece_20 : decode b_m11_piece 20 = .ok (.iload_n 1, 1) := by decide +kernel
theorem d_m11_piece_21 : decode b_m11_piece 21 = .ok (.bipush 10, 2) := by decide +kernel
theorem d_m11_piece_23 : decode b_m11_piece 23 = .ok (.idiv, 1) := by decide +kernel
theorem d_m11_piece_24 : decode b_m11_piece 24 = .ok (.bipush 10, 2) := by decide +kernel
theorem d_m11_piece_26 : decode b_m11_piece 26 = .ok (.irem, 1) := by decide +kernel
theorem d_m11_piece_27 : decode b_m11_piece 27 = .ok (.istore 6, 2) := by decide +kernel
theorem d_m11_piece_29 : decode b_m11_piece 29 = .ok (.iload 5, 2) := by decide +kernel
theorem d_m11_piece_31 : decode b_m11_piece 31 = .ok (.iconst 2, 1) := by decide +kernel
theorem d_m11_piece_32 : decode b_m11_piece 32 = .ok (.iconst 4, 1) := by decide +kernel
theorem d_m11_piece_33 : decode b_m11_piece 33 = .ok (.invokestatic 135, 3) := by decide +kernel
theorem d_m11_piece_36 : decode b_m11_piece 36 = .ok (.istore 7, 2) := by decide +kernel
theorem d_m11_piece_38 : decode b_m11_piece 38 = .ok (.iload_n 1, 1) := by decide +kernel
theorem d_m11_piece_39 : decode b_m11_piece 39 = .ok (.ifCond .lt 32, 3) := by decide +kernel
theorem d_m11_piece_42 : decode b_m11_piece 42 = .ok (.iload 6, 2) := by decide +kernel
theorem d_m11_piece_44 : decode b_m11_piece 44 = .ok (.bipush 8, 2) := by decide +kernel
theorem d_m11_piece_46 : decode b_m11_piece 46 = .ok (.if_icmp .ge 25, 3) := by decide +kernel
theorem d_m11_piece_49 : decode b_m11_piece 49 = .ok (.iload_n 1, 1) := by decide +kernel
theorem d_m11_piece_50 : decode b_m11_piece 50 = .ok (.bipush 10, 2) := by decide +kernel
theorem d_m11_piece_52 : decode b_m11_piece 52 = .ok (.irem, 1) := by decide +kernel
theorem d_m11_piece_53 : decode b_m11_piece 53 = .ok (.bipush 6, 2) := by decide +kernel
theorem d_m11_piece_55 : decode b_m11_piece 55 = .ok (.if_icmp .ge 16, 3) := by decide +kernel
theorem d_m11_piece_58 : decode b_m11_piece 58 = .ok (.iload 7, 2) := by decide +kernel
theorem d_m11_piece_60 : decode b_m11_piece 60 = .ok (.ifCond .eq 18, 3) := by decide +kernel
theorem d_m11_piece_63 : decode b_m11_piece 63 = .ok (.aload_n 0, 1) := by decide +kernel
theorem d_m11_piece_64 : decode b_m11_piece 64 = .ok (.iload_n 3, 1) := by decide +kernel
theorem d_m11_piece_65 : decode b_m11_piece 65 = .ok (.invokevirtual 152, 3) := by decide +kernel
theorem d_m11_piece_68 : decode b_m11_piece 68 = .ok (.ifCond .ne 10, 3) := by decide +kernel
theorem d_m11_piece_71 : decode b_m11_piece 71 = .ok (.aload_n 0, 1) := by decide +kernel
theorem d_m11_piece_72 : decode b_m11_piece 72 = .ok (.bipush (-3), 2) := by decide +kernel
theorem d_m11_piece_74 : decode b_m11_piece 74 = .ok (.invokevirtual 139, 3) := by decide +kernel
theorem d_m11_piece_77 : decode b_m11_piece 77 = .ok (.ireturn, 1) := by decide +kernel
theorem d_m11_piece_78 : decode b_m11_piece 78 = .ok (.iload_n 2, 1) := by decide +kernel
theorem d_m11_piece_79 : decode b_m11_piece 79 = .ok (.bipush 100, 2) := by decide +kernel
theorem d_m11_piece_81 : decode b_m11_piece 81 = .ok (.irem, 1) := by decide +kernel
theorem d_m11_piece_82 : decode b_m11_piece 82 = .ok (.istore 8, 2) := by decide +kernel
theorem d_m11_piece_84 : decode b_m11_piece 84 = .ok (.iload 5, 2) := by decide +kernel
theorem d_m11_piece_86 : decode b_m11_piece 86 = .ok (.iconst 5, 1) := by decide +kernel
theorem d_m11_piece_87 : decode b_m11_piece 87 = .ok (.if_icmp .gt 72, 3) := by decide +kernel
theorem d_m11_piece_90 : decode b_m11_piece 90 = .ok (.iload_n 2, 1) := by decide +kernel
theorem d_m11_piece_91 : decode b_m11_piece 91 = .ok (.iconst 0, 1) := by decide +kernel
theorem d_m11_piece_92 : decode b_m11_piece 92 = .ok (.sipush 999, 3) := by decide +kernel
theorem d_m11_piece_95 : decode b_m11_piece 95 = .ok (.invokestatic 135, 3) := by decide +kernel
theorem d_m11_piece_98 : decode b_m11_piece 98 = .ok (.ifCond .eq 61, 3) := by decide +kernel
theorem d_m11_piece_101 : decode b_m11_piece 101 = .ok (.iload 8, 2) := by decide +kernel
theorem d_m11_piece_103 : decode b_m11_piece 103 = .ok (.iconst 1, 1) := by decide +kernel
theorem d_m11_piece_104 : decode b_m11_piece 104 = .ok (.bipush 12, 2) := by decide +kernel
theorem d_m11_piece_106 : decode b_m11_piece 106 = .ok (.invokestatic 135, 3) := by decide +kernel
theorem d_m11_piece_109 : decode b_m11_piece 109 = .ok (.ifCond .eq 50, 3) := by decide +kernel
theorem d_m11_piece_112 : decode b_m11_piece 112 = .ok (.iload 8, 2) := by decide +kernel
theorem d_m11_piece_114 : decode b_m11_piece 114 = .ok (.aload_n 0, 1) := by decide +kernel
theorem d_m11_piece_115 : decode b_m11_piece 115 = .ok (.getfield 149, 3) := by decide +kernel
theorem d_m11_piece_118 : decode b_m11_piece 118 = .ok (.if_icmp .gt 41, 3) := by decide +kernel
theorem d_m11_piece_121 : decode b_m11_piece 121 = .ok (.iload 5, 2) := by decide +kernel
theorem d_m11_piece_123 : decode b_m11_piece 123 = .ok (.ifCond .eq 9, 3) := by decide +kernel
theorem d_m11_piece_126 : decode b_m11_piece 126 = .ok (.iload 5, 2) := by decide +kernel
theorem d_m11_piece_128 : decode b_m11_piece 128 = .ok (.iconst 5, 1) := by decide +kernel
theorem d_m11_piece_129 : decode b_m11_piece 129 = .ok (.if_icmp .ne 13, 3) := by decide +kernel
theorem d_m11_piece_132 : decode b_m11_piece 132 = .ok (.iload_n 3, 1) := by decide +kernel
theorem d_m11_piece_133 : decode b_m11_piece 133 = .ok (.iconst 0, 1) := by decide +kernel
theorem d_m11_piece_134 : decode b_m11_piece 134 = .ok (.bipush 7, 2) := by decide +kernel
theorem d_m11_piece_136 : decode b_m11_piece 136 = .ok (.invokestatic 135, 3) := by decide +kernel
theorem d_m11_piece_139 : decode b_m11_piece 139 = .ok (.ifCond .eq 20, 3) := by decide +kernel
theorem d_m11_piece_142 : decode b_m11_piece 142 = .ok (.iload 5, 2) := by decide +kernel
theorem d_m11_piece_144 : decode b_m11_piece 144 = .ok (.iconst 5, 1) := by decide +kernel
theorem d_m11_piece_145 : decode b_m11_piece 145 = .ok (.if_icmp .ne 21, 3) := by decide +kernel
theorem d_m11_piece_148 : decode b_m11_piece 148 = .ok (.iload 4, 2) := by decide +kernel
theorem d_m11_piece_150 : decode b_m11_piece 150 = .ok (.iconst 0, 1) := by decide +kernel
theorem d_m11_piece_151 : decode b_m11_piece 151 = .ok (.ldc 156, 2) := by decide +kernel
theorem d_m11_piece_153 : decode b_m11_piece 153 = .ok (.invokestatic 135, 3) := by decide +kernel
theorem d_m11_piece_156 : decode b_m11_piece 156 = .ok (.ifCond .ne 10, 3) := by decide +kernel
theorem d_m11_piece_159 : decode b_m11_piece 159 = .ok (.aload_n 0, 1) := by decide +kernel
theorem d_m11_piece_160 : decode b_m11_piece 160 = .ok (.bipush (-7), 2) := by decide +kernel
theorem d_m11_piece_162 : decode b_m11_piece 162 = .ok (.invokevirtual 139, 3) := by decide +kernel
theorem d_m11_piece_165 : decode b_m11_piece 165 = .ok (.ireturn, 1) := by decide +kernel
theorem d_m11_piece_166 : decode b_m11_piece 166 = .ok (.iload 7, 2) := by decide +kernel
theorem d_m11_piece_168 : decode b_m11_piece 168 = .ok (.ifCond .eq 22, 3) := by decide +kernel
theorem d_m11_piece_171 : decode b_m11_piece 171 = .ok (.aload_n 0, 1) := by decide +kernel
theorem d_m11_piece_172 : decode b_m11_piece 172 = .ok (.iload 5, 2) := by decide +kernel
theorem d_m11_piece_174 : decode b_m11_piece 174 = .ok (.iload 6, 2) := by decide +kernel
theorem d_m11_piece_176 : decode b_m11_piece 176 = .ok (.iload_n 3, 1) := by decide +kernel
theorem d_m11_piece_177 : decode b_m11_piece 177 = .ok (.invokevirtual 157, 3) := by decide +kernel
theorem d_m11_piece_180 : decode b_m11_piece 180 = .ok (.ifCond .ne 10, 3) := by decide +kernel
theorem d_m11_piece_183 : decode b_m11_piece 183 = .ok (.aload_n 0, 1) := by decide +kernel
theorem d_m11_piece_184 : decode b_m11_piece 184 = .ok (.bipush (-5), 2) := by decide +kernel
theorem d_m11_piece_186 : decode b_m11_piece 186 = .ok (.invokevirtual 139, 3) := by decide +kernel
theorem d_m11_piece_189 : decode b_m11_piece 189 = .ok (.ireturn, 1) := by decide +kernel
theorem d_m11_piece_190 : decode b_m11_piece 190 = .ok (.iload 5, 2) := by decide +kernel
theorem d_m11_piece_192 : decode b_m11_piece 192 = .ok (.iconst 2, 1) := by decide +kernel
theorem d_m11_piece_193 : decode b_m11_piece 193 = .ok (.if_icmp .ne 18, 3) := by decide +kernel
theorem d_m11_piece_196 : decode b_m11_piece 196 = .ok (.iload 4, 2) := by decide +kernel
theorem d_m11_piece_198 : decode b_m11_piece 198 = .ok (.iconst 0, 1) := by decide +kernel
theorem d_m11_piece_199 : decode b_m11_piece 199 = .ok (.aload_n 0, 1) := by decide +kernel
theorem d_m11_piece_200 : decode b_m11_piece 200 = .ok (.getfield 34, 3) := by decide +kernel
theorem d_m11_piece_203 : decode b_m11_piece 203 = .ok (.iload_n 3, 1) := by decide +kernel
theorem d_m11_piece_204 : decode b_m11_piece 204 = .ok (.iaload, 1) := by decide +kernel
theorem d_m11_piece_205 : decode b_m11_piece 205 = .ok (.invokestatic 135, 3) := by decide +kernel
theorem d_m11_piece_208 : decode b_m11_piece 208 = .ok (.ifCond .eq 27, 3) := by decide +kernel
theorem d_m11_piece_211 : decode b_m11_piece 211 = .ok (.iload 5, 2) := by decide +kernel
theorem d_m11_piece_213 : decode b_m11_piece 213 = .ok (.iconst 3, 1) := by decide +kernel
theorem d_m11_piece_214 : decode b_m11_piece 214 = .ok (.if_icmp .ne 28, 3) := by decide +kernel
theorem d_m11_piece_217 : decode b_m11_piece 217 = .ok (.iload 4, 2) := by decide +kernel
theorem d_m11_piece_219 : decode b_m11_piece 219 = .ok (.iconst 0, 1) := by decide +kernel
theorem d_m11_piece_220 : decode b_m11_piece 220 = .ok (.aload_n 0, 1) := by decide +kernel
theorem d_m11_piece_221 : decode b_m11_piece 221 = .ok (.getfield 34, 3) := by decide +kernel
theorem d_m11_piece_224 : decode b_m11_piece 224 = .ok (.iload_n 3, 1) := by decide +kernel
theorem d_m11_piece_225 : decode b_m11_piece 225 = .ok (.iaload, 1) := by decide +kernel
theorem d_m11_piece_226 : decode b_m11_piece 226 = .ok (.iload 8, 2) := by decide +kernel
theorem d_m11_piece_228 : decode b_m11_piece 228 = .ok (.isub, 1) := by decide +kernel
theorem d_m11_piece_229 : decode b_m11_piece 229 = .ok (.invokestatic 135, 3) := by decide +kernel
theorem d_m11_piece_232 : decode b_m11_piece 232 = .ok (.ifCond .ne 10, 3) := by decide +kernel
theorem d_m11_piece_235 : decode b_m11_piece 235 = .ok (.aload_n 0, 1) := by decide +kernel
theorem d_m11_piece_236 : decode b_m11_piece 236 = .ok (.bipush (-7), 2) := by decide +kernel
theorem d_m11_piece_238 : decode b_m11_piece 238 = .ok (.invokevirtual 139, 3) := by decide +kernel
theorem d_m11_piece_241 : decode b_m11_piece 241 = .ok (.ireturn, 1) := by decide +kernel
theorem d_m11_piece_242 : decode b_m11_piece 242 = .ok (.aload_n 0, 1) := by decide +kernel
theorem d_m11_piece_243 : decode b_m11_piece 243 = .ok (.getfield 143, 3) := by decide +kernel
theorem d_m11_piece_246 : decode b_m11_piece 246 = .ok (.bipush 40, 2) := by decide +kernel
theorem d_m11_piece_248 : decode b_m11_piece 248 = .ok (.if_icmp .ne 10, 3) := by decide +kernel
theorem d_m11_piece_251 : decode b_m11_piece 251 = .ok (.aload_n 0, 1) := by decide +kernel
theorem d_m11_piece_252 : decode b_m11_piece 252 = .ok (.bipush (-8), 2) := by decide +kernel
theorem d_m11_piece_254 : decode b_m11_piece 254 = .ok (.invokevirtual 139, 3) := by decide +kernel
theorem d_m11_piece_257 : decode b_m11_piece 257 = .ok (.ireturn, 1) := by decide +kernel
theorem d_m11_piece_258 : decode b_m11_piece 258 = .ok (.aload_n 0, 1) := by decide +kernel
theorem d_m11_piece_259 : decode b_m11_piece 259 = .ok (.getfield 22, 3) := by decide +kernel
theorem d_m11_piece_262 : decode b_m11_piece 262 = .ok (.aload_n 0, 1) := by decide +kernel
theorem d_m11_piece_263 : decode b_m11_piece 263 = .ok (.getfield 143, 3) := by decide +kernel
theorem d_m11_piece_266 : decode b_m11_piece 266 = .ok (.iload 5, 2) := by decide +kernel
theorem d_m11_piece_268 : decode b_m11_piece 268 = .ok (.iastore, 1) := by decide +kernel
theorem d_m11_piece_269 : decode b_m11_piece 269 = .ok (.aload_n 0, 1) := by decide +kernel
theorem d_m11_piece_270 : decode b_m11_piece 270 = .ok (.getfield 25, 3) := by decide +kernel
theorem d_m11_piece_273 : decode b_m11_piece 273 = .ok (.aload_n 0, 1) := by decide +kernel
theorem d_m11_piece_274 : decode b_m11_piece 274 = .ok (.getfield 143, 3) := by decide +kernel
theorem d_m11_piece_277 : decode b_m11_piece 277 = .ok (.iload 6, 2) := by decide +kernel
theorem d_m11_piece_279 : decode b_m11_piece 279 = .ok (.iastore, 1) := by decide +kernel
theorem d_m11_piece_280 : decode b_m11_piece 280 = .ok (.aload_n 0, 1) := by decide +kernel
theorem d_m11_piece_281 : decode b_m11_piece 281 = .ok (.getfield 28, 3) := by decide +kernel
theorem d_m11_piece_284 : decode b_m11_piece 284 = .ok (.aload_n 0, 1) := by decide +kernel
theorem d_m11_piece_285 : decode b_m11_piece 285 = .ok (.getfield 143, 3) := by decide +kernel
theorem d_m11_piece_288 : decode b_m11_piece 288 = .ok (.iload_n 1, 1) := by decide +kernel
theorem d_m11_piece_289 : decode b_m11_piece 289 = .ok (.bipush 10, 2) := by decide +kernel
theorem d_m11_piece_291 : decode b_m11_piece 291 = .ok (.irem, 1) := by decide +kernel
theorem d_m11_piece_292 : decode b_m11_piece 292 = .ok (.iastore, 1) := by decide +kernel
theorem d_m11_piece_293 : decode b_m11_piece 293 = .ok (.aload_n 0, 1) := by decide +kernel
theorem d_m11_piece_294 : decode b_m11_piece 294 = .ok (.getfield 31, 3) := by decide +kernel
theorem d_m11_piece_297 : decode b_m11_piece 297 = .ok (.aload_n 0, 1) := by decide +kernel
theorem d_m11_piece_298 : decode b_m11_piece 298 = .ok (.getfield 143, 3) := by decide +kernel
theorem d_m11_piece_301 : decode b_m11_piece 301 = .ok (.iload_n 2, 1) := by decide +kernel
theorem d_m11_piece_302 : decode b_m11_piece 302 = .ok (.bipush 100, 2) := by decide +kernel
theorem d_m11_piece_304 : decode b_m11_piece 304 = .ok (.idiv, 1) := by decide +kernel
theorem d_m11_piece_305 : decode b_m11_piece 305 = .ok (.iastore, 1) := by decide +kernel
theorem d_m11_piece_306 : decode b_m11_piece 306 = .ok (.aload_n 0, 1) := by decide +kernel
theorem d_m11_piece_307 : decode b_m11_piece 307 = .ok (.getfield 34, 3) := by decide +kernel
theorem d_m11_piece_310 : decode b_m11_piece 310 = .ok (.aload_n 0, 1) := by decide +kernel
theorem d_m11_piece_311 : decode b_m11_piece 311 = .ok (.getfield 143, 3) := by decide +kernel
theorem d_m11_piece_314 : decode b_m11_piece 314 = .ok (.iload 8, 2) := by decide +kernel
theorem d_m11_piece_316 : decode b_m11_piece 316 = .ok (.iastore, 1) := by decide +kernel
theorem d_m11_piece_317 : decode b_m11_piece 317 = .ok (.aload_n 0, 1) := by decide +kernel
theorem d_m11_piece_318 : decode b_m11_piece 318 = .ok (.getfield 37, 3) := by decide +kernel
theorem d_m11_piece_321 : decode b_m11_piece 321 = .ok (.aload_n 0, 1) := by decide +kernel
theorem d_m11_piece_322 : decode b_m11_piece 322 = .ok (.getfield 143, 3) := by decide +kernel
theorem d_m11_piece_325 : decode b_m11_piece 325 = .ok (.iload 5, 2) := by decide +kernel
theorem d_m11_piece_327 : decode b_m11_piece 327 = .ok (.iconst 1, 1) := by decide +kernel
theorem d_m11_piece_328 : decode b_m11_piece 328 = .ok (.if_icmp .ne 7, 3) := by decide +kernel
theorem d_m11_piece_331 : decode b_m11_piece 331 = .ok (.iconst (-1), 1) := by decide +kernel
theorem d_m11_piece_332 : decode b_m11_piece 332 = .ok (.goto 4, 3) := by decide +kernel
theorem d_m11_piece_335 : decode b_m11_piece 335 = .ok (.iload_n 3, 1) := by decide +kernel
theorem d_m11_piece_336 : decode b_m11_piece 336 = .ok (.iastore, 1) := by decide +kernel
theorem d_m11_piece_337 : decode b_m11_piece 337 = .ok (.aload_n 0, 1) := by decide +kernel
theorem d_m11_piece_338 : decode b_m11_piece 338 = .ok (.getfield 40, 3) := by decide +kernel
theorem d_m11_piece_341 : decode b_m11_piece 341 = .ok (.aload_n 0, 1) := by decide +kernel
theorem d_m11_piece_342 : decode b_m11_piece 342 = .ok (.getfield 143, 3) := by decide +kernel
theorem d_m11_piece_345 : decode b_m11_piece 345 = .ok (.iload 5, 2) := by decide +kernel
theorem d_m11_piece_347 : decode b_m11_piece 347 = .ok (.iconst 2, 1) := by decide +kernel
theorem d_m11_piece_348 : decode b_m11_piece 348 = .ok (.if_icmp .eq 15, 3) := by decide +kernel
theorem d_m11_piece_351 : decode b_m11_piece 351 = .ok (.iload 5, 2) := by decide +kernel
theorem d_m11_piece_353 : decode b_m11_piece 353 = .ok (.iconst 3, 1) := by decide +kernel
theorem d_m11_piece_354 : decode b_m11_piece 354 = .ok (.if_icmp .eq 9, 3) := by decide +kernel
theorem d_m11_piece_357 : decode b_m11_piece 357 = .ok (.iload 5, 2) := by decide +kernel
theorem d_m11_piece_359 : decode b_m11_piece 359 = .ok (.iconst 5, 1) := by decide +kernel
theorem d_m11_piece_360 : decode b_m11_piece 360 = .ok (.if_icmp .ne 8, 3) := by decide +kernel
theorem d_m11_piece_363 : decode b_m11_piece 363 = .ok (.iload 4, 2) := by decide +kernel
theorem d_m11_piece_365 : decode b_m11_piece 365 = .ok (.goto 4, 3) := by decide +kernel
theorem d_m11_piece_368 : decode b_m11_piece 368 = .ok (.iconst (-1), 1) := by decide +kernel
theorem d_m11_piece_369 : decode b_m11_piece 369 = .ok (.iastore, 1) := by decide +kernel
theorem d_m11_piece_370 : decode b_m11_piece 370 = .ok (.iconst 0, 1) := by decide +kernel
theorem d_m11_piece_371 : decode b_m11_piece 371 = .ok (.istore 9, 2) := by decide +kernel
theorem d_m11_piece_373 : decode b_m11_piece 373 = .ok (.iload 9, 2) := by decide +kernel
theorem d_m11_piece_375 : decode b_m11_piece 375 = .ok (.iload 8, 2) := by decide +kernel
theorem d_m11_piece_377 : decode b_m11_piece 377 = .ok (.if_icmp .ge 31, 3) := by decide +kernel
theorem d_m11_piece_380 : decode b_m11_piece 380 = .ok (.aload_n 0, 1) := by decide +kernel
theorem d_m11_piece_381 : decode b_m11_piece 381 = .ok (.getfield 43, 3) := by decide +kernel
theorem d_m11_piece_384 : decode b_m11_piece 384 = .ok (.bipush 12, 2) := by decide +kernel
theorem d_m11_piece_386 : decode b_m11_piece 386 = .ok (.aload_n 0, 1) := by decide +kernel
theorem d_m11_piece_387 : decode b_m11_piece 387 = .ok (.getfield 143, 3) := by decide +kernel
theorem d_m11_piece_390 : decode b_m11_piece 390 = .ok (.imul, 1) := by decide +kernel
theorem d_m11_piece_391 : decode b_m11_piece 391 = .ok (.iload 9, 2) := by decide +kernel
theorem d_m11_piece_393 : decode b_m11_piece 393 = .ok (.iadd, 1) := by decide +kernel
theorem d_m11_piece_394 : decode b_m11_piece 394 = .ok (.aload_n 0, 1) := by decide +kernel
theorem d_m11_piece_395 : decode b_m11_piece 395 = .ok (.getfield 46, 3) := by decide +kernel
theorem d_m11_piece_398 : decode b_m11_piece 398 = .ok (.iload 9, 2) := by decide +kernel
theorem d_m11_piece_400 : decode b_m11_piece 400 = .ok (.iaload, 1) := by decide +kernel
theorem d_m11_piece_401 : decode b_m11_piece 401 = .ok (.iastore, 1) := by decide +kernel
theorem d_m11_piece_402 : decode b_m11_piece 402 = .ok (.iinc 9 1, 3) := by decide +kernel
theorem d_m11_piece_405 : decode b_m11_piece 405 = .ok (.goto (-32), 3) := by decide +kernel
theorem d_m11_piece_408 : decode b_m11_piece 408 = .ok (.iconst 0, 1) := by decide +kernel
theorem d_m11_piece_409 : decode b_m11_piece 409 = .ok (.istore 9, 2) := by decide +kernel
theorem d_m11_piece_411 : decode b_m11_piece 411 = .ok (.iload 9, 2) := by decide +kernel
theorem d_m11_piece_413 : decode b_m11_piece 413 = .ok (.bipush 8, 2) := by decide +kernel
theorem d_m11_piece_415 : decode b_m11_piece 415 = .ok (.if_icmp .ge 25, 3) := by decide +kernel
theorem d_m11_piece_418 : decode b_m11_piece 418 = .ok (.aload_n 0, 1) := by decide +kernel
theorem d_m11_piece_419 : decode b_m11_piece 419 = .ok (.getfield 91, 3) := by decide +kernel
theorem d_m11_piece_422 : decode b_m11_piece 422 = .ok (.bipush 40, 2) := by decide +kernel
theorem d_m11_piece_424 : decode b_m11_piece 424 = .ok (.iload 9, 2) := by decide +kernel
theorem d_m11_piece_426 : decode b_m11_piece 426 = .ok (.imul, 1) := by decide +kernel
theorem d_m11_piece_427 : decode b_m11_piece 427 = .ok (.aload_n 0, 1) := by decide +kernel
theorem d_m11_piece_428 : decode b_m11_piece 428 = .ok (.getfield 143, 3) := by decide +kernel
theorem d_m11_piece_431 : decode b_m11_piece 431 = .ok (.iadd, 1) := by decide +kernel
theorem d_m11_piece_432 : decode b_m11_piece 432 = .ok (.iconst (-1), 1) := by decide +kernel
theorem d_m11_piece_433 : decode b_m11_piece 433 = .ok (.iastore, 1) := by decide +kernel
theorem d_m11_piece_434 : decode b_m11_piece 434 = .ok (.iinc 9 1, 3) := by decide +kernel
theorem d_m11_piece_437 : decode b_m11_piece 437 = .ok (.goto (-26), 3) := by decide +kernel
theorem d_m11_piece_440 : decode b_m11_piece 440 = .ok (.iconst 0, 1) := by decide +kernel
theorem d_m11_piece_441 : decode b_m11_piece 441 = .ok (.istore 9, 2) := by decide +kernel
theorem d_m11_piece_443 : decode b_m11_piece 443 = .ok (.iload 9, 2) := by decide +kernel
theorem d_m11_piece_445 : decode b_m11_piece 445 = .ok (.bipush 6, 2) := by decide +kernel
theorem d_m11_piece_447 : decode b_m11_piece 447 = .ok (.if_icmp .ge 25, 3) := by decide +kernel
theorem d_m11_piece_450 : decode b_m11_piece 450 = .ok (.aload_n 0, 1) := by decide +kernel
theorem d_m11_piece_451 : decode b_m11_piece 451 = .ok (.getfield 82, 3) := by decide +kernel
theorem d_m11_piece_454 : decode b_m11_piece 454 = .ok (.bipush 40, 2) := by decide +kernel
theorem d_m11_piece_456 : decode b_m11_piece 456 = .ok (.iload 9, 2) := by decide +kernel
theorem d_m11_piece_458 : decode b_m11_piece 458 = .ok (.imul, 1) := by decide +kernel
theorem d_m11_piece_459 : decode b_m11_piece 459 = .ok (.aload_n 0, 1) := by decide +kernel
theorem d_m11_piece_460 : decode b_m11_piece 460 = .ok (.getfield 143, 3) := by decide +kernel
theorem d_m11_piece_463 : decode b_m11_piece 463 = .ok (.iadd, 1) := by decide +kernel
theorem d_m11_piece_464 : decode b_m11_piece 464 = .ok (.iconst (-1), 1) := by decide +kernel
theorem d_m11_piece_465 : decode b_m11_piece 465 = .ok (.iastore, 1) := by decide +kernel
theorem d_m11_piece_466 : decode b_m11_piece 466 = .ok (.iinc 9 1, 3) := by decide +kernel
theorem d_m11_piece_469 : decode b_m11_piece 469 = .ok (.goto (-26), 3) := by decide +kernel
theorem d_m11_piece_472 : decode b_m11_piece 472 = .ok (.aload_n 0, 1) := by decide +kernel
theorem d_m11_piece_473 : decode b_m11_piece 473 = .ok (.dup, 1) := by decide +kernel
theorem d_m11_piece_474 : decode b_m11_piece 474 = .ok (.getfield 143, 3) := by decide +kernel
theorem d_m11_piece_477 : decode b_m11_piece 477 = .ok (.iconst 1, 1) := by decide +kernel
theorem d_m11_piece_478 : decode b_m11_piece 478 = .ok (.iadd, 1) := by decide +kernel
theorem d_m11_piece_479 : decode b_m11_piece 479 = .ok (.putfield 143, 3) := by decide +kernel
theorem d_m11_piece_482 : decode b_m11_piece 482 = .ok (.aload_n 0, 1) := by decide +kernel
theorem d_m11_piece_483 : decode b_m11_piece 483 = .ok (.getfield 143, 3) := by decide +kernel
theorem d_m11_piece_486 : decode b_m11_piece 486 = .ok (.iconst 1, 1) := by decide +kernel
theorem d_m11_piece_487 : decode b_m11_piece 487 = .ok (.isub, 1) := by decide +kernel
theorem d_m11_piece_488 : decode b_m11_piece 488 = .ok (.ireturn, 1) := by decide +kernel
def s_m11_piece_71  (r0 : Nat) (M : Mm) : Option (Int32 × Mm) := cl (has M r0 21) (s_m11_refused r0 (-3 : Int32) M) (fun v1 M2 => some (v1, M2))
def s_m11_piece_159  (r0 : Nat) (M : Mm) : Option (Int32 × Mm) := cl (has M r0 21) (s_m11_refused r0 (-7 : Int32) M) (fun v1 M2 => some (v1, M2))
def s_m11_piece_443  : Nat → Nat → Int32 → Mm → Option (Int32 × Mm)
  | 0, _, _, _ => none
  | n + 1, r0, x9, M => (if (6 : Int32) ≤ x9 then gI M r0 21 6 (fun v1 => pI M r0 21 6 (v1 + (1 : Int32)) (fun M2 => gI M2 r0 21 6 (fun v3 => some (v3 - (1 : Int32), M2)))) else gR M r0 21 34 (fun v4 => gI M r0 21 6 (fun v5 => sI M v4 0 (((40 : Int32) * x9) + v5) (-1 : Int32) (fun M6 => (s_m11_piece_443 n) r0 (x9 + 1) M6))))
def s_m11_piece_411  : Nat → Nat → Int32 → Mm → Option (Int32 × Mm)
  | 0, _, _, _ => none
  | n + 1, r0, x9, M => (if (8 : Int32) ≤ x9 then s_m11_piece_443 FU r0 (0 : Int32) M else gR M r0 21 37 (fun v1 => gI M r0 21 6 (fun v2 => sI M v1 0 (((40 : Int32) * x9) + v2) (-1 : Int32) (fun M3 => (s_m11_piece_411 n) r0 (x9 + 1) M3))))
def s_m11_piece_373  : Nat → Nat → Int32 → Int32 → Mm → Option (Int32 × Mm)
  | 0, _, _, _, _ => none
  | n + 1, r0, x8, x9, M => (if x8 ≤ x9 then s_m11_piece_411 FU r0 (0 : Int32) M else gR M r0 21 14 (fun v1 => gI M r0 21 6 (fun v2 => gR M r0 21 16 (fun v3 => aI M v3 0 x9 (fun v4 => sI M v1 0 (((12 : Int32) * v2) + x9) v4 (fun M5 => (s_m11_piece_373 n) r0 x8 (x9 + 1) M5))))))
def s_m11_piece_369  (r0 : Nat) (x8 : Int32) (t0 : Nat) (t1 : Int32) (t2 : Int32) (M : Mm) : Option (Int32 × Mm) := sI M t0 0 t1 t2 (fun M1 => s_m11_piece_373 FU r0 x8 (0 : Int32) M1)
def s_m11_piece_363  (r0 : Nat) (x4 : Int32) (x8 : Int32) (t0 : Nat) (t1 : Int32) (M : Mm) : Option (Int32 × Mm) := s_m11_piece_369 r0 x8 t0 t1 x4 M
def s_m11_piece_336  (r0 : Nat) (x4 : Int32) (x5 : Int32) (x8 : Int32) (t0 : Nat) (t1 : Int32) (t2 : Int32) (M : Mm) : Option (Int32 × Mm) := sI M t0 0 t1 t2 (fun M1 => gR M1 r0 21 13 (fun v2 => gI M1 r0 21 6 (fun v3 => (if x5 = (2 : Int32) then s_m11_piece_363 r0 x4 x8 v2 v3 M1 else (if x5 = (3 : Int32) then s_m11_piece_363 r0 x4 x8 v2 v3 M1 else (if ¬ x5 = (5 : Int32) then s_m11_piece_369 r0 x8 v2 v3 (-1 : Int32) M1 else s_m11_piece_363 r0 x4 x8 v2 v3 M1))))))
def s_m11_piece_242  (r0 : Nat) (x1 : Int32) (x2 : Int32) (x3 : Int32) (x4 : Int32) (x5 : Int32) (x6 : Int32) (x8 : Int32) (M : Mm) : Option (Int32 × Mm) := gI M r0 21 6 (fun v1 => (if ¬ v1 = (40 : Int32) then gR M r0 21 7 (fun v2 => gI M r0 21 6 (fun v3 => sI M v2 0 v3 x5 (fun M4 => gR M4 r0 21 8 (fun v5 => gI M4 r0 21 6 (fun v6 => sI M4 v5 0 v6 x6 (fun M7 => gR M7 r0 21 9 (fun v8 => gI M7 r0 21 6 (fun v9 => dz (10 : Int32) (sI M7 v8 0 v9 (x1 - x1 / (10 : Int32) * (10 : Int32)) (fun M10 => gR M10 r0 21 10 (fun v11 => gI M10 r0 21 6 (fun v12 => dz (100 : Int32) (sI M10 v11 0 v12 (x2 / (100 : Int32)) (fun M13 => gR M13 r0 21 11 (fun v14 => gI M13 r0 21 6 (fun v15 => sI M13 v14 0 v15 x8 (fun M16 => gR M16 r0 21 12 (fun v17 => gI M16 r0 21 6 (fun v18 => (if ¬ x5 = (1 : Int32) then s_m11_piece_336 r0 x4 x5 x8 v17 v18 x3 M16 else s_m11_piece_336 r0 x4 x5 x8 v17 v18 (-1 : Int32) M16)))))))))))))))))))) else cl (has M r0 21) (s_m11_refused r0 (-8 : Int32) M) (fun v19 M20 => some (v19, M20))))
def s_m11_piece_235  (r0 : Nat) (M : Mm) : Option (Int32 × Mm) := cl (has M r0 21) (s_m11_refused r0 (-7 : Int32) M) (fun v1 M2 => some (v1, M2))
def s_m11_piece_211  (r0 : Nat) (x1 : Int32) (x2 : Int32) (x3 : Int32) (x4 : Int32) (x5 : Int32) (x6 : Int32) (x8 : Int32) (M : Mm) : Option (Int32 × Mm) := (if ¬ x5 = (3 : Int32) then s_m11_piece_242 r0 x1 x2 x3 x4 x5 x6 x8 M else gR M r0 21 11 (fun v1 => aI M v1 0 x3 (fun v2 => cl true (s_m11_in x4 (0 : Int32) (v2 - x8) M) (fun v3 M4 => (if ¬ v3 = 0 then s_m11_piece_242 r0 x1 x2 x3 x4 x5 x6 x8 M4 else s_m11_piece_235 r0 M4)))))
def s_m11_piece_190  (r0 : Nat) (x1 : Int32) (x2 : Int32) (x3 : Int32) (x4 : Int32) (x5 : Int32) (x6 : Int32) (x8 : Int32) (M : Mm) : Option (Int32 × Mm) := (if ¬ x5 = (2 : Int32) then s_m11_piece_211 r0 x1 x2 x3 x4 x5 x6 x8 M else gR M r0 21 11 (fun v1 => aI M v1 0 x3 (fun v2 => cl true (s_m11_in x4 (0 : Int32) v2 M) (fun v3 M4 => (if v3 = 0 then s_m11_piece_235 r0 M4 else s_m11_piece_211 r0 x1 x2 x3 x4 x5 x6 x8 M4)))))
def s_m11_piece_166  (r0 : Nat) (x1 : Int32) (x2 : Int32) (x3 : Int32) (x4 : Int32) (x5 : Int32) (x6 : Int32) (x7 : Int32) (x8 : Int32) (M : Mm) : Option (Int32 × Mm) := (if x7 = 0 then s_m11_piece_190 r0 x1 x2 x3 x4 x5 x6 x8 M else cl (has M r0 21) (s_m11_isOfPiece r0 x5 x6 x3 M) (fun v1 M2 => (if ¬ v1 = 0 then s_m11_piece_190 r0 x1 x2 x3 x4 x5 x6 x8 M2 else cl (has M2 r0 21) (s_m11_refused r0 (-5 : Int32) M2) (fun v3 M4 => some (v3, M4)))))
def s_m11_piece_142  (r0 : Nat) (x1 : Int32) (x2 : Int32) (x3 : Int32) (x4 : Int32) (x5 : Int32) (x6 : Int32) (x7 : Int32) (x8 : Int32) (M : Mm) : Option (Int32 × Mm) := (if ¬ x5 = (5 : Int32) then s_m11_piece_166 r0 x1 x2 x3 x4 x5 x6 x7 x8 M else cl true (s_m11_in x4 (0 : Int32) (100000 : Int32) M) (fun v1 M2 => (if ¬ v1 = 0 then s_m11_piece_166 r0 x1 x2 x3 x4 x5 x6 x7 x8 M2 else s_m11_piece_159 r0 M2)))
def s_m11_piece_132  (r0 : Nat) (x1 : Int32) (x2 : Int32) (x3 : Int32) (x4 : Int32) (x5 : Int32) (x6 : Int32) (x7 : Int32) (x8 : Int32) (M : Mm) : Option (Int32 × Mm) := cl true (s_m11_in x3 (0 : Int32) (7 : Int32) M) (fun v1 M2 => (if v1 = 0 then s_m11_piece_159 r0 M2 else s_m11_piece_142 r0 x1 x2 x3 x4 x5 x6 x7 x8 M2))
def s_m11_piece_78  (r0 : Nat) (x1 : Int32) (x2 : Int32) (x3 : Int32) (x4 : Int32) (x5 : Int32) (x6 : Int32) (x7 : Int32) (M : Mm) : Option (Int32 × Mm) := dz (100 : Int32) ((if (5 : Int32) < x5 then s_m11_piece_159 r0 M else cl true (s_m11_in x2 (0 : Int32) (999 : Int32) M) (fun v1 M2 => (if v1 = 0 then s_m11_piece_159 r0 M2 else cl true (s_m11_in (x2 - x2 / (100 : Int32) * (100 : Int32)) (1 : Int32) (12 : Int32) M2) (fun v3 M4 => (if v3 = 0 then s_m11_piece_159 r0 M4 else gI M4 r0 21 15 (fun v5 => (if v5 < (x2 - x2 / (100 : Int32) * (100 : Int32)) then s_m11_piece_159 r0 M4 else (if x5 = 0 then s_m11_piece_132 r0 x1 x2 x3 x4 x5 x6 x7 (x2 - x2 / (100 : Int32) * (100 : Int32)) M4 else (if ¬ x5 = (5 : Int32) then s_m11_piece_142 r0 x1 x2 x3 x4 x5 x6 x7 (x2 - x2 / (100 : Int32) * (100 : Int32)) M4 else s_m11_piece_132 r0 x1 x2 x3 x4 x5 x6 x7 (x2 - x2 / (100 : Int32) * (100 : Int32)) M4))))))))))
def s_m11_piece (r0 : Nat) (a1 : Int32) (a2 : Int32) (a3 : Int32) (a4 : Int32) (M : Mm) : Option (Int32 × Mm) := gI M r0 21 15 (fun v1 => (if ¬ v1 = 0 then dz (100 : Int32) (dz (10 : Int32) (dz (10 : Int32) (cl true (s_m11_in (a1 / (100 : Int32)) (2 : Int32) (4 : Int32) M) (fun v2 M3 => (if a1 < 0 then s_m11_piece_71 r0 M3 else (if (8 : Int32) ≤ ((a1 / (10 : Int32)) - (a1 / (10 : Int32)) / (10 : Int32) * (10 : Int32)) then s_m11_piece_71 r0 M3 else dz (10 : Int32) ((if (6 : Int32) ≤ (a1 - a1 / (10 : Int32) * (10 : Int32)) then s_m11_piece_71 r0 M3 else (if v2 = 0 then s_m11_piece_78 r0 a1 a2 a3 a4 (a1 / (100 : Int32)) ((a1 / (10 : Int32)) - (a1 / (10 : Int32)) / (10 : Int32) * (10 : Int32)) v2 M3 else cl (has M3 r0 21) (s_m11_isPiece r0 a3 M3) (fun v4 M5 => (if ¬ v4 = 0 then s_m11_piece_78 r0 a1 a2 a3 a4 (a1 / (100 : Int32)) ((a1 / (10 : Int32)) - (a1 / (10 : Int32)) / (10 : Int32) * (10 : Int32)) v2 M5 else s_m11_piece_71 r0 M5))))))))))) else cl (has M r0 21) (s_m11_refused r0 (-2 : Int32) M) (fun v6 M7 => some (v6, M7))))
set_option maxRecDepth 100000 in
set_option maxHeartbeats 4000000 in
theorem w_m11_piece_71 {V : Ev} {C : Cx} {n0 : Nat} (hC : Cok V C y_m11_piece.cls b_m11_piece 10 n0 (some .int) y_m11_piece.name) (hR : cR C = rm_m11_piece)  : ∀ (r0 : Nat) (M : Mm), Sm V C 10 n0 n0 (qI V C) 71 [(0, rv V.1 r0)] [] M (s_m11_piece_71 r0 M) := by
  intro r0 M
  unfold s_m11_piece_71
  refine Sm.aload_n hC d_m11_piece_71 rfl 0 rfl ?_
  refine Sm.bipush (v := -3) hC d_m11_piece_72 (by decide) ?_
  refine Sm.callVi 11 (As := [.int (-3 : Int32)]) (st := []) hC hR cw_m11_refused (tw_i 1048 (by decide +kernel)) (tw_i 1050 (by decide +kernel)) (tw_i 23 (by decide +kernel)) ⟨_, rfl, rfl⟩ (fun r9 M9 h9 => ok_m11_refused h9) rfl rfl (RW.of ⟨rfl, rfl, by decide, by decide⟩) (by simp) d_m11_piece_74 (fun v1 M2 => ?_)
  exact Sm.iret hC d_m11_piece_77 rfl (Nat.sub_self _)
set_option maxRecDepth 100000 in
set_option maxHeartbeats 4000000 in
theorem w_m11_piece_159 {V : Ev} {C : Cx} {n0 : Nat} (hC : Cok V C y_m11_piece.cls b_m11_piece 10 n0 (some .int) y_m11_piece.name) (hR : cR C = rm_m11_piece)  : ∀ (r0 : Nat) (M : Mm), Sm V C 10 n0 n0 (qI V C) 159 [(0, rv V.1 r0)] [] M (s_m11_piece_159 r0 M) := by
  intro r0 M
  unfold s_m11_piece_159
  refine Sm.aload_n hC d_m11_piece_159 rfl 0 rfl ?_
  refine Sm.bipush (v := -7) hC d_m11_piece_160 (by decide) ?_
  refine Sm.callVi 11 (As := [.int (-7 : Int32)]) (st := []) hC hR cw_m11_refused (tw_i 1048 (by decide +kernel)) (tw_i 1050 (by decide +kernel)) (tw_i 23 (by decide +kernel)) ⟨_, rfl, rfl⟩ (fun r9 M9 h9 => ok_m11_refused h9) rfl rfl (RW.of ⟨rfl, rfl, by decide, by decide⟩) (by simp) d_m11_piece_162 (fun v1 M2 => ?_)
  exact Sm.iret hC d_m11_piece_165 rfl (Nat.sub_self _)
set_option maxRecDepth 100000 in
set_option maxHeartbeats 4000000 in
theorem w_m11_piece_443 {V : Ev} {C : Cx} {n0 : Nat} (hC : Cok V C y_m11_piece.cls b_m11_piece 10 n0 (some .int) y_m11_piece.name) (hR : cR C = rm_m11_piece)  : ∀ (n : Nat) (r0 : Nat) (x9 : Int32) (M : Mm), Sm V C 10 n0 n0 (qI V C) 443 [(0, rv V.1 r0), (9, .int x9)] [] M (s_m11_piece_443 n r0 x9 M) := by
  intro n
  induction n with
  | zero => exact fun r0 x9 M => Sm.none_
  | succ n ih =>
    intro r0 x9 M
    unfold s_m11_piece_443
    refine Sm.iload hC d_m11_piece_443 1 rfl ?_
    refine Sm.bipush (v := 6) hC d_m11_piece_445 (by decide) ?_
    refine Sm.icmp_ge (tgt := 472) hC d_m11_piece_447 (by decide) ?_ ?_
    · refine Sm.aload_n hC d_m11_piece_472 rfl 0 rfl ?_
      refine Sm.dup hC d_m11_piece_473 (cat_rv _ _) ?_
      refine Sm.getI hC fl_m11_143 rfl d_m11_piece_474 (fun v1 => ?_)
      refine Sm.iconst (v := 1) hC d_m11_piece_477 (by decide) ?_
      refine Sm.iadd hC d_m11_piece_478 ?_
      refine Sm.putI hC fl_m11_143 rfl d_m11_piece_479 (fun M2 => ?_)
      refine Sm.aload_n hC d_m11_piece_482 rfl 0 rfl ?_
      refine Sm.getI hC fl_m11_143 rfl d_m11_piece_483 (fun v3 => ?_)
      refine Sm.iconst (v := 1) hC d_m11_piece_486 (by decide) ?_
      refine Sm.isub hC d_m11_piece_487 ?_
      exact Sm.iret hC d_m11_piece_488 rfl (Nat.sub_self _)
    · refine Sm.aload_n hC d_m11_piece_450 rfl 0 rfl ?_
      refine Sm.getR hC fl_m11_82 rfl d_m11_piece_451 (fun v4 => ?_)
      refine Sm.bipush (v := 40) hC d_m11_piece_454 (by decide) ?_
      refine Sm.iload hC d_m11_piece_456 1 rfl ?_
      refine Sm.imul hC d_m11_piece_458 ?_
      refine Sm.aload_n hC d_m11_piece_459 rfl 0 rfl ?_
      refine Sm.getI hC fl_m11_143 rfl d_m11_piece_460 (fun v5 => ?_)
      refine Sm.iadd hC d_m11_piece_463 ?_
      refine Sm.iconst (v := -1) hC d_m11_piece_464 (by decide) ?_
      refine Sm.iast hC d_m11_piece_465 (fun M6 => ?_)
      refine Sm.iinc (v := x9 + 1) (lv' := [(9, .int (x9 + 1)), (0, rv V.1 r0)]) hC d_m11_piece_466 1 rfl rfl (by decide) rfl ?_
      refine Sm.goto (tgt := 443) hC d_m11_piece_469 (by decide) ?_
      refine Sm.sub [1, 0] rfl ?_
      exact ih r0 (x9 + 1) M6
set_option maxRecDepth 100000 in
set_option maxHeartbeats 4000000 in
theorem w_m11_piece_411 {V : Ev} {C : Cx} {n0 : Nat} (hC : Cok V C y_m11_piece.cls b_m11_piece 10 n0 (some .int) y_m11_piece.name) (hR : cR C = rm_m11_piece)  : ∀ (n : Nat) (r0 : Nat) (x9 : Int32) (M : Mm), Sm V C 10 n0 n0 (qI V C) 411 [(0, rv V.1 r0), (9, .int x9)] [] M (s_m11_piece_411 n r0 x9 M) := by
  intro n
  induction n with
  | zero => exact fun r0 x9 M => Sm.none_
  | succ n ih =>
    intro r0 x9 M
    unfold s_m11_piece_411
    refine Sm.iload hC d_m11_piece_411 1 rfl ?_
    refine Sm.bipush (v := 8) hC d_m11_piece_413 (by decide) ?_
    refine Sm.icmp_ge (tgt := 440) hC d_m11_piece_415 (by decide) ?_ ?_
    · refine Sm.iconst (v := 0) hC d_m11_piece_440 (by decide) ?_
      refine Sm.istore (lv' := [(9, .int (0 : Int32)), (0, rv V.1 r0)]) hC d_m11_piece_441 (by decide) rfl ?_
      refine Sm.sub [1, 0] rfl ?_
      exact w_m11_piece_443 hC hR FU r0 (0 : Int32) M
    · refine Sm.aload_n hC d_m11_piece_418 rfl 0 rfl ?_
      refine Sm.getR hC fl_m11_91 rfl d_m11_piece_419 (fun v1 => ?_)
      refine Sm.bipush (v := 40) hC d_m11_piece_422 (by decide) ?_
      refine Sm.iload hC d_m11_piece_424 1 rfl ?_
      refine Sm.imul hC d_m11_piece_426 ?_
      refine Sm.aload_n hC d_m11_piece_427 rfl 0 rfl ?_
      refine Sm.getI hC fl_m11_143 rfl d_m11_piece_428 (fun v2 => ?_)
      refine Sm.iadd hC d_m11_piece_431 ?_
      refine Sm.iconst (v := -1) hC d_m11_piece_432 (by decide) ?_
      refine Sm.iast hC d_m11_piece_433 (fun M3 => ?_)
      refine Sm.iinc (v := x9 + 1) (lv' := [(9, .int (x9 + 1)), (0, rv V.1 r0)]) hC d_m11_piece_434 1 rfl rfl (by decide) rfl ?_
      refine Sm.goto (tgt := 411) hC d_m11_piece_437 (by decide) ?_
      refine Sm.sub [1, 0] rfl ?_
      exact ih r0 (x9 + 1) M3
set_option maxRecDepth 100000 in
set_option maxHeartbeats 4000000 in
theorem w_m11_piece_373 {V : Ev} {C : Cx} {n0 : Nat} (hC : Cok V C y_m11_piece.cls b_m11_piece 10 n0 (some .int) y_m11_piece.name) (hR : cR C = rm_m11_piece)  : ∀ (n : Nat) (r0 : Nat) (x8 : Int32) (x9 : Int32) (M : Mm), Sm V C 10 n0 n0 (qI V C) 373 [(0, rv V.1 r0), (8, .int x8), (9, .int x9)] [] M (s_m11_piece_373 n r0 x8 x9 M) := by
  intro n
  induction n with
  | zero => exact fun r0 x8 x9 M => Sm.none_
  | succ n ih =>
    intro r0 x8 x9 M
    unfold s_m11_piece_373
    refine Sm.iload hC d_m11_piece_373 2 rfl ?_
    refine Sm.iload hC d_m11_piece_375 1 rfl ?_
    refine Sm.icmp_ge (tgt := 408) hC d_m11_piece_377 (by decide) ?_ ?_
    · refine Sm.iconst (v := 0) hC d_m11_piece_408 (by decide) ?_
      refine Sm.istore (lv' := [(9, .int (0 : Int32)), (0, rv V.1 r0), (8, .int x8)]) hC d_m11_piece_409 (by decide) rfl ?_
      refine Sm.sub [1, 0] rfl ?_
      exact w_m11_piece_411 hC hR FU r0 (0 : Int32) M
    · refine Sm.aload_n hC d_m11_piece_380 rfl 0 rfl ?_
      refine Sm.getR hC fl_m11_43 rfl d_m11_piece_381 (fun v1 => ?_)
      refine Sm.bipush (v := 12) hC d_m11_piece_384 (by decide) ?_
      refine Sm.aload_n hC d_m11_piece_386 rfl 0 rfl ?_
      refine Sm.getI hC fl_m11_143 rfl d_m11_piece_387 (fun v2 => ?_)
      refine Sm.imul hC d_m11_piece_390 ?_
      refine Sm.iload hC d_m11_piece_391 2 rfl ?_
      refine Sm.iadd hC d_m11_piece_393 ?_
      refine Sm.aload_n hC d_m11_piece_394 rfl 0 rfl ?_
      refine Sm.getR hC fl_m11_46 rfl d_m11_piece_395 (fun v3 => ?_)
      refine Sm.iload hC d_m11_piece_398 2 rfl ?_
      refine Sm.iald hC d_m11_piece_400 (fun v4 => ?_)
      refine Sm.iast hC d_m11_piece_401 (fun M5 => ?_)
      refine Sm.iinc (v := x9 + 1) (lv' := [(9, .int (x9 + 1)), (0, rv V.1 r0), (8, .int x8)]) hC d_m11_piece_402 2 rfl rfl (by decide) rfl ?_
      refine Sm.goto (tgt := 373) hC d_m11_piece_405 (by decide) ?_
      refine Sm.sub [1, 2, 0] rfl ?_
      exact ih r0 x8 (x9 + 1) M5
set_option maxRecDepth 100000 in
set_option maxHeartbeats 4000000 in
theorem w_m11_piece_369 {V : Ev} {C : Cx} {n0 : Nat} (hC : Cok V C y_m11_piece.cls b_m11_piece 10 n0 (some .int) y_m11_piece.name) (hR : cR C = rm_m11_piece)  : ∀ (r0 : Nat) (x8 : Int32) (t0 : Nat) (t1 : Int32) (t2 : Int32) (M : Mm), Sm V C 10 n0 n0 (qI V C) 369 [(0, rv V.1 r0), (8, .int x8)] [.int t2, .int t1, rv V.1 t0] M (s_m11_piece_369 r0 x8 t0 t1 t2 M) := by
  intro r0 x8 t0 t1 t2 M
  unfold s_m11_piece_369
  refine Sm.iast hC d_m11_piece_369 (fun M1 => ?_)
  refine Sm.iconst (v := 0) hC d_m11_piece_370 (by decide) ?_
  refine Sm.istore (lv' := [(9, .int (0 : Int32)), (0, rv V.1 r0), (8, .int x8)]) hC d_m11_piece_371 (by decide) rfl ?_
  refine Sm.sub [1, 2, 0] rfl ?_
  exact w_m11_piece_373 hC hR FU r0 x8 (0 : Int32) M1
set_option maxRecDepth 100000 in
set_option maxHeartbeats 4000000 in
theorem w_m11_piece_363 {V : Ev} {C : Cx} {n0 : Nat} (hC : Cok V C y_m11_piece.cls b_m11_piece 10 n0 (some .int) y_m11_piece.name) (hR : cR C = rm_m11_piece)  : ∀ (r0 : Nat) (x4 : Int32) (x8 : Int32) (t0 : Nat) (t1 : Int32) (M : Mm), Sm V C 10 n0 n0 (qI V C) 363 [(0, rv V.1 r0), (4, .int x4), (8, .int x8)] [.int t1, rv V.1 t0] M (s_m11_piece_363 r0 x4 x8 t0 t1 M) := by
  intro r0 x4 x8 t0 t1 M
  unfold s_m11_piece_363
  refine Sm.iload hC d_m11_piece_363 1 rfl ?_
  refine Sm.goto (tgt := 369) hC d_m11_piece_365 (by decide) ?_
  refine Sm.sub [0, 2] rfl ?_
  exact w_m11_piece_369 hC hR r0 x8 t0 t1 x4 M
set_option maxRecDepth 100000 in
set_option maxHeartbeats 4000000 in
theorem w_m11_piece_336 {V : Ev} {C : Cx} {n0 : Nat} (hC : Cok V C y_m11_piece.cls b_m11_piece 10 n0 (some .int) y_m11_piece.name) (hR : cR C = rm_m11_piece)  : ∀ (r0 : Nat) (x4 : Int32) (x5 : Int32) (x8 : Int32) (t0 : Nat) (t1 : Int32) (t2 : Int32) (M : Mm), Sm V C 10 n0 n0 (qI V C) 336 [(0, rv V.1 r0), (4, .int x4), (5, .int x5), (8, .int x8)] [.int t2, .int t1, rv V.1 t0] M (s_m11_piece_336 r0 x4 x5 x8 t0 t1 t2 M) := by
  intro r0 x4 x5 x8 t0 t1 t2 M
  unfold s_m11_piece_336
  refine Sm.iast hC d_m11_piece_336 (fun M1 => ?_)
  refine Sm.aload_n hC d_m11_piece_337 rfl 0 rfl ?_
  refine Sm.getR hC fl_m11_40 rfl d_m11_piece_338 (fun v2 => ?_)
  refine Sm.aload_n hC d_m11_piece_341 rfl 0 rfl ?_
  refine Sm.getI hC fl_m11_143 rfl d_m11_piece_342 (fun v3 => ?_)
  refine Sm.iload hC d_m11_piece_345 2 rfl ?_
  refine Sm.iconst (v := 2) hC d_m11_piece_347 (by decide) ?_
  refine Sm.icmp_eq (tgt := 363) hC d_m11_piece_348 (by decide) ?_ ?_
  · refine Sm.sub [0, 1, 3] rfl ?_
    exact w_m11_piece_363 hC hR r0 x4 x8 v2 v3 M1
  · refine Sm.iload hC d_m11_piece_351 2 rfl ?_
    refine Sm.iconst (v := 3) hC d_m11_piece_353 (by decide) ?_
    refine Sm.icmp_eq (tgt := 363) hC d_m11_piece_354 (by decide) ?_ ?_
    · refine Sm.sub [0, 1, 3] rfl ?_
      exact w_m11_piece_363 hC hR r0 x4 x8 v2 v3 M1
    · refine Sm.iload hC d_m11_piece_357 2 rfl ?_
      refine Sm.iconst (v := 5) hC d_m11_piece_359 (by decide) ?_
      refine Sm.icmp_ne (tgt := 368) hC d_m11_piece_360 (by decide) ?_ ?_
      · refine Sm.iconst (v := -1) hC d_m11_piece_368 (by decide) ?_
        refine Sm.sub [0, 3] rfl ?_
        exact w_m11_piece_369 hC hR r0 x8 v2 v3 (-1 : Int32) M1
      · refine Sm.sub [0, 1, 3] rfl ?_
        exact w_m11_piece_363 hC hR r0 x4 x8 v2 v3 M1
set_option maxRecDepth 100000 in
set_option maxHeartbeats 4000000 in
theorem w_m11_piece_242 {V : Ev} {C : Cx} {n0 : Nat} (hC : Cok V C y_m11_piece.cls b_m11_piece 10 n0 (some .int) y_m11_piece.name) (hR : cR C = rm_m11_piece)  : ∀ (r0 : Nat) (x1 : Int32) (x2 : Int32) (x3 : Int32) (x4 : Int32) (x5 : Int32) (x6 : Int32) (x8 : Int32) (M : Mm), Sm V C 10 n0 n0 (qI V C) 242 [(0, rv V.1 r0), (1, .int x1), (2, .int x2), (3, .int x3), (4, .int x4), (5, .int x5), (6, .int x6), (8, .int x8)] [] M (s_m11_piece_242 r0 x1 x2 x3 x4 x5 x6 x8 M) := by
  intro r0 x1 x2 x3 x4 x5 x6 x8 M
  unfold s_m11_piece_242
  refine Sm.aload_n hC d_m11_piece_242 rfl 0 rfl ?_
  refine Sm.getI hC fl_m11_143 rfl d_m11_piece_243 (fun v1 => ?_)
  refine Sm.bipush (v := 40) hC d_m11_piece_246 (by decide) ?_
  refine Sm.icmp_ne (tgt := 258) hC d_m11_piece_248 (by decide) ?_ ?_
  · refine Sm.aload_n hC d_m11_piece_258 rfl 0 rfl ?_
    refine Sm.getR hC fl_m11_22 rfl d_m11_piece_259 (fun v2 => ?_)
    refine Sm.aload_n hC d_m11_piece_262 rfl 0 rfl ?_
    refine Sm.getI hC fl_m11_143 rfl d_m11_piece_263 (fun v3 => ?_)
    refine Sm.iload hC d_m11_piece_266 5 rfl ?_
    refine Sm.iast hC d_m11_piece_268 (fun M4 => ?_)
    refine Sm.aload_n hC d_m11_piece_269 rfl 0 rfl ?_
    refine Sm.getR hC fl_m11_25 rfl d_m11_piece_270 (fun v5 => ?_)
    refine Sm.aload_n hC d_m11_piece_273 rfl 0 rfl ?_
    refine Sm.getI hC fl_m11_143 rfl d_m11_piece_274 (fun v6 => ?_)
    refine Sm.iload hC d_m11_piece_277 6 rfl ?_
    refine Sm.iast hC d_m11_piece_279 (fun M7 => ?_)
    refine Sm.aload_n hC d_m11_piece_280 rfl 0 rfl ?_
    refine Sm.getR hC fl_m11_28 rfl d_m11_piece_281 (fun v8 => ?_)
    refine Sm.aload_n hC d_m11_piece_284 rfl 0 rfl ?_
    refine Sm.getI hC fl_m11_143 rfl d_m11_piece_285 (fun v9 => ?_)
    refine Sm.iload_n hC d_m11_piece_288 rfl 1 rfl ?_
    refine Sm.bipush (v := 10) hC d_m11_piece_289 (by decide) ?_
    refine Sm.irem hC d_m11_piece_291 ?_
    refine Sm.iast hC d_m11_piece_292 (fun M10 => ?_)
    refine Sm.aload_n hC d_m11_piece_293 rfl 0 rfl ?_
    refine Sm.getR hC fl_m11_31 rfl d_m11_piece_294 (fun v11 => ?_)
    refine Sm.aload_n hC d_m11_piece_297 rfl 0 rfl ?_
    refine Sm.getI hC fl_m11_143 rfl d_m11_piece_298 (fun v12 => ?_)
    refine Sm.iload_n hC d_m11_piece_301 rfl 2 rfl ?_
    refine Sm.bipush (v := 100) hC d_m11_piece_302 (by decide) ?_
    refine Sm.idiv hC d_m11_piece_304 ?_
    refine Sm.iast hC d_m11_piece_305 (fun M13 => ?_)
    refine Sm.aload_n hC d_m11_piece_306 rfl 0 rfl ?_
    refine Sm.getR hC fl_m11_34 rfl d_m11_piece_307 (fun v14 => ?_)
    refine Sm.aload_n hC d_m11_piece_310 rfl 0 rfl ?_
    refine Sm.getI hC fl_m11_143 rfl d_m11_piece_311 (fun v15 => ?_)
    refine Sm.iload hC d_m11_piece_314 7 rfl ?_
    refine Sm.iast hC d_m11_piece_316 (fun M16 => ?_)
    refine Sm.aload_n hC d_m11_piece_317 rfl 0 rfl ?_
    refine Sm.getR hC fl_m11_37 rfl d_m11_piece_318 (fun v17 => ?_)
    refine Sm.aload_n hC d_m11_piece_321 rfl 0 rfl ?_
    refine Sm.getI hC fl_m11_143 rfl d_m11_piece_322 (fun v18 => ?_)
    refine Sm.iload hC d_m11_piece_325 5 rfl ?_
    refine Sm.iconst (v := 1) hC d_m11_piece_327 (by decide) ?_
    refine Sm.icmp_ne (tgt := 335) hC d_m11_piece_328 (by decide) ?_ ?_
    · refine Sm.iload_n hC d_m11_piece_335 rfl 3 rfl ?_
      refine Sm.sub [0, 4, 5, 7] rfl ?_
      exact w_m11_piece_336 hC hR r0 x4 x5 x8 v17 v18 x3 M16
    · refine Sm.iconst (v := -1) hC d_m11_piece_331 (by decide) ?_
      refine Sm.goto (tgt := 336) hC d_m11_piece_332 (by decide) ?_
      refine Sm.sub [0, 4, 5, 7] rfl ?_
      exact w_m11_piece_336 hC hR r0 x4 x5 x8 v17 v18 (-1 : Int32) M16
  · refine Sm.aload_n hC d_m11_piece_251 rfl 0 rfl ?_
    refine Sm.bipush (v := -8) hC d_m11_piece_252 (by decide) ?_
    refine Sm.callVi 11 (As := [.int (-8 : Int32)]) (st := []) hC hR cw_m11_refused (tw_i 1048 (by decide +kernel)) (tw_i 1050 (by decide +kernel)) (tw_i 23 (by decide +kernel)) ⟨_, rfl, rfl⟩ (fun r9 M9 h9 => ok_m11_refused h9) rfl rfl (RW.of ⟨rfl, rfl, by decide, by decide⟩) (by simp) d_m11_piece_254 (fun v19 M20 => ?_)
    exact Sm.iret hC d_m11_piece_257 rfl (Nat.sub_self _)
set_option maxRecDepth 100000 in
set_option maxHeartbeats 4000000 in
theorem w_m11_piece_235 {V : Ev} {C : Cx} {n0 : Nat} (hC : Cok V C y_m11_piece.cls b_m11_piece 10 n0 (some .int) y_m11_piece.name) (hR : cR C = rm_m11_piece)  : ∀ (r0 : Nat) (M : Mm), Sm V C 10 n0 n0 (qI V C) 235 [(0, rv V.1 r0)] [] M (s_m11_piece_235 r0 M) := by
  intro r0 M
  unfold s_m11_piece_235
  refine Sm.aload_n hC d_m11_piece_235 rfl 0 rfl ?_
  refine Sm.bipush (v := -7) hC d_m11_piece_236 (by decide) ?_
  refine Sm.callVi 11 (As := [.int (-7 : Int32)]) (st := []) hC hR cw_m11_refused (tw_i 1048 (by decide +kernel)) (tw_i 1050 (by decide +kernel)) (tw_i 23 (by decide +kernel)) ⟨_, rfl, rfl⟩ (fun r9 M9 h9 => ok_m11_refused h9) rfl rfl (RW.of ⟨rfl, rfl, by decide, by decide⟩) (by simp) d_m11_piece_238 (fun v1 M2 => ?_)
  exact Sm.iret hC d_m11_piece_241 rfl (Nat.sub_self _)
set_option maxRecDepth 100000 in
set_option maxHeartbeats 4000000 in
theorem w_m11_piece_211 {V : Ev} {C : Cx} {n0 : Nat} (hC : Cok V C y_m11_piece.cls b_m11_piece 10 n0 (some .int) y_m11_piece.name) (hR : cR C = rm_m11_piece)  : ∀ (r0 : Nat) (x1 : Int32) (x2 : Int32) (x3 : Int32) (x4 : Int32) (x5 : Int32) (x6 : Int32) (x8 : Int32) (M : Mm), Sm V C 10 n0 n0 (qI V C) 211 [(0, rv V.1 r0), (1, .int x1), (2, .int x2), (3, .int x3), (4, .int x4), (5, .int x5), (6, .int x6), (8, .int x8)] [] M (s_m11_piece_211 r0 x1 x2 x3 x4 x5 x6 x8 M) := by
  intro r0 x1 x2 x3 x4 x5 x6 x8 M
  unfold s_m11_piece_211
  refine Sm.iload hC d_m11_piece_211 5 rfl ?_
  refine Sm.iconst (v := 3) hC d_m11_piece_213 (by decide) ?_
  refine Sm.icmp_ne (tgt := 242) hC d_m11_piece_214 (by decide) ?_ ?_
  · exact w_m11_piece_242 hC hR r0 x1 x2 x3 x4 x5 x6 x8 M
  · refine Sm.iload hC d_m11_piece_217 4 rfl ?_
    refine Sm.iconst (v := 0) hC d_m11_piece_219 (by decide) ?_
    refine Sm.aload_n hC d_m11_piece_220 rfl 0 rfl ?_
    refine Sm.getR hC fl_m11_34 rfl d_m11_piece_221 (fun v1 => ?_)
    refine Sm.iload_n hC d_m11_piece_224 rfl 3 rfl ?_
    refine Sm.iald hC d_m11_piece_225 (fun v2 => ?_)
    refine Sm.iload hC d_m11_piece_226 7 rfl ?_
    refine Sm.isub hC d_m11_piece_228 ?_
    refine Sm.callSi (As := [.int x4, .int (0 : Int32), .int (v2 - x8)]) (st := []) hC hR cw_m11_in (tw_i 1045 (by decide +kernel)) (tw_i 1046 (by decide +kernel)) (fun r9 M9 h9 => ok_m11_in h9) rfl rfl (RW.of ⟨rfl, rfl, by decide, by decide⟩) (by simp) d_m11_piece_229 (fun v3 M4 => ?_)
    refine Sm.if_ne (tgt := 242) hC d_m11_piece_232 (by decide) ?_ ?_
    · exact w_m11_piece_242 hC hR r0 x1 x2 x3 x4 x5 x6 x8 M4
    · refine Sm.sub [0] rfl ?_
      exact w_m11_piece_235 hC hR r0 M4
set_option maxRecDepth 100000 in
set_option maxHeartbeats 4000000 in
theorem w_m11_piece_190 {V : Ev} {C : Cx} {n0 : Nat} (hC : Cok V C y_m11_piece.cls b_m11_piece 10 n0 (some .int) y_m11_piece.name) (hR : cR C = rm_m11_piece)  : ∀ (r0 : Nat) (x1 : Int32) (x2 : Int32) (x3 : Int32) (x4 : Int32) (x5 : Int32) (x6 : Int32) (x8 : Int32) (M : Mm), Sm V C 10 n0 n0 (qI V C) 190 [(0, rv V.1 r0), (1, .int x1), (2, .int x2), (3, .int x3), (4, .int x4), (5, .int x5), (6, .int x6), (8, .int x8)] [] M (s_m11_piece_190 r0 x1 x2 x3 x4 x5 x6 x8 M) := by
  intro r0 x1 x2 x3 x4 x5 x6 x8 M
  unfold s_m11_piece_190
  refine Sm.iload hC d_m11_piece_190 5 rfl ?_
  refine Sm.iconst (v := 2) hC d_m11_piece_192 (by decide) ?_
  refine Sm.icmp_ne (tgt := 211) hC d_m11_piece_193 (by decide) ?_ ?_
  · exact w_m11_piece_211 hC hR r0 x1 x2 x3 x4 x5 x6 x8 M
  · refine Sm.iload hC d_m11_piece_196 4 rfl ?_
    refine Sm.iconst (v := 0) hC d_m11_piece_198 (by decide) ?_
    refine Sm.aload_n hC d_m11_piece_199 rfl 0 rfl ?_
    refine Sm.getR hC fl_m11_34 rfl d_m11_piece_200 (fun v1 => ?_)
    refine Sm.iload_n hC d_m11_piece_203 rfl 3 rfl ?_
    refine Sm.iald hC d_m11_piece_204 (fun v2 => ?_)
    refine Sm.callSi (As := [.int x4, .int (0 : Int32), .int v2]) (st := []) hC hR cw_m11_in (tw_i 1045 (by decide +kernel)) (tw_i 1046 (by decide +kernel)) (fun r9 M9 h9 => ok_m11_in h9) rfl rfl (RW.of ⟨rfl, rfl, by decide, by decide⟩) (by simp) d_m11_piece_205 (fun v3 M4 => ?_)
    refine Sm.if_eq (tgt := 235) hC d_m11_piece_208 (by decide) ?_ ?_
    · refine Sm.sub [0] rfl ?_
      exact w_m11_piece_235 hC hR r0 M4
    · exact w_m11_piece_211 hC hR r0 x1 x2 x3 x4 x5 x6 x8 M4
set_option maxRecDepth 100000 in
set_option maxHeartbeats 4000000 in
theorem w_m11_piece_166 {V : Ev} {C : Cx} {n0 : Nat} (hC : Cok V C y_m11_piece.cls b_m11_piece 10 n0 (some .int) y_m11_piece.name) (hR : cR C = rm_m11_piece)  : ∀ (r0 : Nat) (x1 : Int32) (x2 : Int32) (x3 : Int32) (x4 : Int32) (x5 : Int32) (x6 : Int32) (x7 : Int32) (x8 : Int32) (M : Mm), Sm V C 10 n0 n0 (qI V C) 166 [(0, rv V.1 r0), (1, .int x1), (2, .int x2), (3, .int x3), (4, .int x4), (5, .int x5), (6, .int x6), (7, .int x7), (8, .int x8)] [] M (s_m11_piece_166 r0 x1 x2 x3 x4 x5 x6 x7 x8 M) := by
  intro r0 x1 x2 x3 x4 x5 x6 x7 x8 M
  unfold s_m11_piece_166
  refine Sm.iload hC d_m11_piece_166 7 rfl ?_
  refine Sm.if_eq (tgt := 190) hC d_m11_piece_168 (by decide) ?_ ?_
  · refine Sm.sub [0, 1, 2, 3, 4, 5, 6, 8] rfl ?_
    exact w_m11_piece_190 hC hR r0 x1 x2 x3 x4 x5 x6 x8 M
  · refine Sm.aload_n hC d_m11_piece_171 rfl 0 rfl ?_
    refine Sm.iload hC d_m11_piece_172 5 rfl ?_
    refine Sm.iload hC d_m11_piece_174 6 rfl ?_
    refine Sm.iload_n hC d_m11_piece_176 rfl 3 rfl ?_
    refine Sm.callVi 11 (As := [.int x5, .int x6, .int x3]) (st := []) hC hR cw_m11_isOfPiece (tw_i 1065 (by decide +kernel)) (tw_i 1067 (by decide +kernel)) (tw_i 25 (by decide +kernel)) ⟨_, rfl, rfl⟩ (fun r9 M9 h9 => ok_m11_isOfPiece h9) rfl rfl (RW.of ⟨rfl, rfl, by decide, by decide⟩) (by simp) d_m11_piece_177 (fun v1 M2 => ?_)
    refine Sm.if_ne (tgt := 190) hC d_m11_piece_180 (by decide) ?_ ?_
    · refine Sm.sub [0, 1, 2, 3, 4, 5, 6, 8] rfl ?_
      exact w_m11_piece_190 hC hR r0 x1 x2 x3 x4 x5 x6 x8 M2
    · refine Sm.aload_n hC d_m11_piece_183 rfl 0 rfl ?_
      refine Sm.bipush (v := -5) hC d_m11_piece_184 (by decide) ?_
      refine Sm.callVi 11 (As := [.int (-5 : Int32)]) (st := []) hC hR cw_m11_refused (tw_i 1048 (by decide +kernel)) (tw_i 1050 (by decide +kernel)) (tw_i 23 (by decide +kernel)) ⟨_, rfl, rfl⟩ (fun r9 M9 h9 => ok_m11_refused h9) rfl rfl (RW.of ⟨rfl, rfl, by decide, by decide⟩) (by simp) d_m11_piece_186 (fun v3 M4 => ?_)
      exact Sm.iret hC d_m11_piece_189 rfl (Nat.sub_self _)
set_option maxRecDepth 100000 in
set_option maxHeartbeats 4000000 in
theorem w_m11_piece_142 {V : Ev} {C : Cx} {n0 : Nat} (hC : Cok V C y_m11_piece.cls b_m11_piece 10 n0 (some .int) y_m11_piece.name) (hR : cR C = rm_m11_piece)  : ∀ (r0 : Nat) (x1 : Int32) (x2 : Int32) (x3 : Int32) (x4 : Int32) (x5 : Int32) (x6 : Int32) (x7 : Int32) (x8 : Int32) (M : Mm), Sm V C 10 n0 n0 (qI V C) 142 [(0, rv V.1 r0), (1, .int x1), (2, .int x2), (3, .int x3), (4, .int x4), (5, .int x5), (6, .int x6), (7, .int x7), (8, .int x8)] [] M (s_m11_piece_142 r0 x1 x2 x3 x4 x5 x6 x7 x8 M) := by
  intro r0 x1 x2 x3 x4 x5 x6 x7 x8 M
  unfold s_m11_piece_142
  refine Sm.iload hC d_m11_piece_142 5 rfl ?_
  refine Sm.iconst (v := 5) hC d_m11_piece_144 (by decide) ?_
  refine Sm.icmp_ne (tgt := 166) hC d_m11_piece_145 (by decide) ?_ ?_
  · exact w_m11_piece_166 hC hR r0 x1 x2 x3 x4 x5 x6 x7 x8 M
  · refine Sm.iload hC d_m11_piece_148 4 rfl ?_
    refine Sm.iconst (v := 0) hC d_m11_piece_150 (by decide) ?_
    refine Sm.ldc (v := 100000) hC d_m11_piece_151 (tw_i 1064 (by decide +kernel)) ?_
    refine Sm.callSi (As := [.int x4, .int (0 : Int32), .int (100000 : Int32)]) (st := []) hC hR cw_m11_in (tw_i 1045 (by decide +kernel)) (tw_i 1046 (by decide +kernel)) (fun r9 M9 h9 => ok_m11_in h9) rfl rfl (RW.of ⟨rfl, rfl, by decide, by decide⟩) (by simp) d_m11_piece_153 (fun v1 M2 => ?_)
    refine Sm.if_ne (tgt := 166) hC d_m11_piece_156 (by decide) ?_ ?_
    · exact w_m11_piece_166 hC hR r0 x1 x2 x3 x4 x5 x6 x7 x8 M2
    · refine Sm.sub [0] rfl ?_
      exact w_m11_piece_159 hC hR r0 M2
set_option maxRecDepth 100000 in
set_option maxHeartbeats 4000000 in
theorem w_m11_piece_132 {V : Ev} {C : Cx} {n0 : Nat} (hC : Cok V C y_m11_piece.cls b_m11_piece 10 n0 (some .int) y_m11_piece.name) (hR : cR C = rm_m11_piece)  : ∀ (r0 : Nat) (x1 : Int32) (x2 : Int32) (x3 : Int32) (x4 : Int32) (x5 : Int32) (x6 : Int32) (x7 : Int32) (x8 : Int32) (M : Mm), Sm V C 10 n0 n0 (qI V C) 132 [(0, rv V.1 r0), (1, .int x1), (2, .int x2), (3, .int x3), (4, .int x4), (5, .int x5), (6, .int x6), (7, .int x7), (8, .int x8)] [] M (s_m11_piece_132 r0 x1 x2 x3 x4 x5 x6 x7 x8 M) := by
  intro r0 x1 x2 x3 x4 x5 x6 x7 x8 M
  unfold s_m11_piece_132
  refine Sm.iload_n hC d_m11_piece_132 rfl 3 rfl ?_
  refine Sm.iconst (v := 0) hC d_m11_piece_133 (by decide) ?_
  refine Sm.bipush (v := 7) hC d_m11_piece_134 (by decide) ?_
  refine Sm.callSi (As := [.int x3, .int (0 : Int32), .int (7 : Int32)]) (st := []) hC hR cw_m11_in (tw_i 1045 (by decide +kernel)) (tw_i 1046 (by decide +kernel)) (fun r9 M9 h9 => ok_m11_in h9) rfl rfl (RW.of ⟨rfl, rfl, by decide, by decide⟩) (by simp) d_m11_piece_136 (fun v1 M2 => ?_)
  refine Sm.if_eq (tgt := 159) hC d_m11_piece_139 (by decide) ?_ ?_
  · refine Sm.sub [0] rfl ?_
    exact w_m11_piece_159 hC hR r0 M2
  · exact w_m11_piece_142 hC hR r0 x1 x2 x3 x4 x5 x6 x7 x8 M2
set_option maxRecDepth 100000 in
set_option maxHeartbeats 4000000 in
theorem w_m11_piece_78 {V : Ev} {C : Cx} {n0 : Nat} (hC : Cok V C y_m11_piece.cls b_m11_piece 10 n0 (some .int) y_m11_piece.name) (hR : cR C = rm_m11_piece)  : ∀ (r0 : Nat) (x1 : Int32) (x2 : Int32) (x3 : Int32) (x4 : Int32) (x5 : Int32) (x6 : Int32) (x7 : Int32) (M : Mm), Sm V C 10 n0 n0 (qI V C) 78 [(0, rv V.1 r0), (1, .int x1), (2, .int x2), (3, .int x3), (4, .int x4), (5, .int x5), (6, .int x6), (7, .int x7)] [] M (s_m11_piece_78 r0 x1 x2 x3 x4 x5 x6 x7 M) := by
  intro r0 x1 x2 x3 x4 x5 x6 x7 M
  unfold s_m11_piece_78
  refine Sm.iload_n hC d_m11_piece_78 rfl 2 rfl ?_
  refine Sm.bipush (v := 100) hC d_m11_piece_79 (by decide) ?_
  refine Sm.irem hC d_m11_piece_81 ?_
  refine Sm.istore (lv' := [(8, .int (x2 - x2 / (100 : Int32) * (100 : Int32))), (0, rv V.1 r0), (1, .int x1), (2, .int x2), (3, .int x3), (4, .int x4), (5, .int x5), (6, .int x6), (7, .int x7)]) hC d_m11_piece_82 (by decide) rfl ?_
  refine Sm.iload hC d_m11_piece_84 6 rfl ?_
  refine Sm.iconst (v := 5) hC d_m11_piece_86 (by decide) ?_
  refine Sm.icmp_gt (tgt := 159) hC d_m11_piece_87 (by decide) ?_ ?_
  · refine Sm.sub [1] rfl ?_
    exact w_m11_piece_159 hC hR r0 M
  · refine Sm.iload_n hC d_m11_piece_90 rfl 3 rfl ?_
    refine Sm.iconst (v := 0) hC d_m11_piece_91 (by decide) ?_
    refine Sm.sipush (v := 999) hC d_m11_piece_92 (by decide) ?_
    refine Sm.callSi (As := [.int x2, .int (0 : Int32), .int (999 : Int32)]) (st := []) hC hR cw_m11_in (tw_i 1045 (by decide +kernel)) (tw_i 1046 (by decide +kernel)) (fun r9 M9 h9 => ok_m11_in h9) rfl rfl (RW.of ⟨rfl, rfl, by decide, by decide⟩) (by simp) d_m11_piece_95 (fun v1 M2 => ?_)
    refine Sm.if_eq (tgt := 159) hC d_m11_piece_98 (by decide) ?_ ?_
    · refine Sm.sub [1] rfl ?_
      exact w_m11_piece_159 hC hR r0 M2
    · refine Sm.iload hC d_m11_piece_101 0 rfl ?_
      refine Sm.iconst (v := 1) hC d_m11_piece_103 (by decide) ?_
      refine Sm.bipush (v := 12) hC d_m11_piece_104 (by decide) ?_
      refine Sm.callSi (As := [.int (x2 - x2 / (100 : Int32) * (100 : Int32)), .int (1 : Int32), .int (12 : Int32)]) (st := []) hC hR cw_m11_in (tw_i 1045 (by decide +kernel)) (tw_i 1046 (by decide +kernel)) (fun r9 M9 h9 => ok_m11_in h9) rfl rfl (RW.of ⟨rfl, rfl, by decide, by decide⟩) (by simp) d_m11_piece_106 (fun v3 M4 => ?_)
      refine Sm.if_eq (tgt := 159) hC d_m11_piece_109 (by decide) ?_ ?_
      · refine Sm.sub [1] rfl ?_
        exact w_m11_piece_159 hC hR r0 M4
      · refine Sm.iload hC d_m11_piece_112 0 rfl ?_
        refine Sm.aload_n hC d_m11_piece_114 rfl 1 rfl ?_
        refine Sm.getI hC fl_m11_149 rfl d_m11_piece_115 (fun v5 => ?_)
        refine Sm.icmp_gt (tgt := 159) hC d_m11_piece_118 (by decide) ?_ ?_
        · refine Sm.sub [1] rfl ?_
          exact w_m11_piece_159 hC hR r0 M4
        · refine Sm.iload hC d_m11_piece_121 6 rfl ?_
          refine Sm.if_eq (tgt := 132) hC d_m11_piece_123 (by decide) ?_ ?_
          · refine Sm.sub [1, 2, 3, 4, 5, 6, 7, 8, 0] rfl ?_
            exact w_m11_piece_132 hC hR r0 x1 x2 x3 x4 x5 x6 x7 (x2 - x2 / (100 : Int32) * (100 : Int32)) M4
          · refine Sm.iload hC d_m11_piece_126 6 rfl ?_
            refine Sm.iconst (v := 5) hC d_m11_piece_128 (by decide) ?_
            refine Sm.icmp_ne (tgt := 142) hC d_m11_piece_129 (by decide) ?_ ?_
            · refine Sm.sub [1, 2, 3, 4, 5, 6, 7, 8, 0] rfl ?_
              exact w_m11_piece_142 hC hR r0 x1 x2 x3 x4 x5 x6 x7 (x2 - x2 / (100 : Int32) * (100 : Int32)) M4
            · refine Sm.sub [1, 2, 3, 4, 5, 6, 7, 8, 0] rfl ?_
              exact w_m11_piece_132 hC hR r0 x1 x2 x3 x4 x5 x6 x7 (x2 - x2 / (100 : Int32) * (100 : Int32)) M4
set_option maxRecDepth 100000 in
set_option maxHeartbeats 4000000 in
theorem ok_m11_piece {l : Launch} {V : Ev} {M M' : Mm} {r : Int32} {r0 : Nat} {a1 : Int32} {a2 : Int32} {a3 : Int32} {a4 : Int32} (h : s_m11_piece r0 a1 a2 a3 a4 M = some (r, M')) : Met l y_m11_piece (Cond.code y_m11_piece b_m11_piece 10 (some .int) :: TW) rm_m11_piece (va_Pc [rv V.1 r0, .int a1, .int a2, .int a3, .int a4] (Wd V M)) (QC V (some (.int r)) M' 0) 0 0 (Af V) := by
  refine met_of (fun x : Int32 => some (.int x)) (lv0 := [(0, rv V.1 r0), (1, .int a1), (2, .int a2), (3, .int a3), (4, .int a4)]) (by decide) (by simp [lg_sl, cat_rv, cat_i, cat_l, cat_f]) (by simp [lv_args, cat_rv, cat_i, cat_l, cat_f]) (fun C hl hR hC => ?_) h
  subst hl
  generalize mN M = n0 at hC ⊢
  unfold s_m11_piece
  refine Sm.aload_n hC d_m11_piece_0 rfl 0 rfl ?_
  refine Sm.getI hC fl_m11_149 rfl d_m11_piece_1 (fun v1 => ?_)
  refine Sm.if_ne (tgt := 14) hC d_m11_piece_4 (by decide) ?_ ?_
  · refine Sm.iload_n hC d_m11_piece_14 rfl 1 rfl ?_
    refine Sm.bipush (v := 100) hC d_m11_piece_15 (by decide) ?_
    refine Sm.idiv hC d_m11_piece_17 ?_
    refine Sm.istore (lv' := [(5, .int (a1 / (100 : Int32))), (0, rv V.1 r0), (1, .int a1), (2, .int a2), (3, .int a3), (4, .int a4)]) hC d_m11_piece_18 (by decide) rfl ?_
    refine Sm.iload_n hC d_m11_piece_20 rfl 2 rfl ?_
    refine Sm.bipush (v := 10) hC d_m11_piece_21 (by decide) ?_
    refine Sm.idiv hC d_m11_piece_23 ?_
    refine Sm.bipush (v := 10) hC d_m11_piece_24 (by decide) ?_
    refine Sm.irem hC d_m11_piece_26 ?_
    refine Sm.istore (lv' := [(6, .int ((a1 / (10 : Int32)) - (a1 / (10 : Int32)) / (10 : Int32) * (10 : Int32))), (5, .int (a1 / (100 : Int32))), (0, rv V.1 r0), (1, .int a1), (2, .int a2), (3, .int a3), (4, .int a4)]) hC d_m11_piece_27 (by decide) rfl ?_
    refine Sm.iload hC d_m11_piece_29 1 rfl ?_
    refine Sm.iconst (v := 2) hC d_m11_piece_31 (by decide) ?_
    refine Sm.iconst (v := 4) hC d_m11_piece_32 (by decide) ?_
    refine Sm.callSi (As := [.int (a1 / (100 : Int32)), .int (2 : Int32), .int (4 : Int32)]) (st := []) hC hR cw_m11_in (tw_i 1045 (by decide +kernel)) (tw_i 1046 (by decide +kernel)) (fun r9 M9 h9 => ok_m11_in h9) rfl rfl (RW.of ⟨rfl, rfl, by decide, by decide⟩) (by simp) d_m11_piece_33 (fun v2 M3 => ?_)
    refine Sm.istore (lv' := [(7, .int v2), (6, .int ((a1 / (10 : Int32)) - (a1 / (10 : Int32)) / (10 : Int32) * (10 : Int32))), (5, .int (a1 / (100 : Int32))), (0, rv V.1 r0), (1, .int a1), (2, .int a2), (3, .int a3), (4, .int a4)]) hC d_m11_piece_36 (by decide) rfl ?_
    refine Sm.iload_n hC d_m11_piece_38 rfl 4 rfl ?_
    refine Sm.if_lt (tgt := 71) hC d_m11_piece_39 (by decide) ?_ ?_
    · refine Sm.sub [3] rfl ?_
      exact w_m11_piece_71 hC hR r0 M3
    · refine Sm.iload hC d_m11_piece_42 1 rfl ?_
      refine Sm.bipush (v := 8) hC d_m11_piece_44 (by decide) ?_
      refine Sm.icmp_ge (tgt := 71) hC d_m11_piece_46 (by decide) ?_ ?_
      · refine Sm.sub [3] rfl ?_
        exact w_m11_piece_71 hC hR r0 M3
      · refine Sm.iload_n hC d_m11_piece_49 rfl 4 rfl ?_
        refine Sm.bipush (v := 10) hC d_m11_piece_50 (by decide) ?_
        refine Sm.irem hC d_m11_piece_52 ?_
        refine Sm.bipush (v := 6) hC d_m11_piece_53 (by decide) ?_
        refine Sm.icmp_ge (tgt := 71) hC d_m11_piece_55 (by decide) ?_ ?_
        · refine Sm.sub [3] rfl ?_
          exact w_m11_piece_71 hC hR r0 M3
        · refine Sm.iload hC d_m11_piece_58 0 rfl ?_
          refine Sm.if_eq (tgt := 78) hC d_m11_piece_60 (by decide) ?_ ?_
          · refine Sm.sub [3, 4, 5, 6, 7, 2, 1, 0] rfl ?_
            exact w_m11_piece_78 hC hR r0 a1 a2 a3 a4 (a1 / (100 : Int32)) ((a1 / (10 : Int32)) - (a1 / (10 : Int32)) / (10 : Int32) * (10 : Int32)) v2 M3
          · refine Sm.aload_n hC d_m11_piece_63 rfl 3 rfl ?_
            refine Sm.iload_n hC d_m11_piece_64 rfl 6 rfl ?_
            refine Sm.callVi 11 (As := [.int a3]) (st := []) hC hR cw_m11_isPiece (tw_i 1060 (by decide +kernel)) (tw_i 1062 (by decide +kernel)) (tw_i 24 (by decide +kernel)) ⟨_, rfl, rfl⟩ (fun r9 M9 h9 => ok_m11_isPiece h9) rfl rfl (RW.of ⟨rfl, rfl, by decide, by decide⟩) (by simp) d_m11_piece_65 (fun v4 M5 => ?_)
            refine Sm.if_ne (tgt := 78) hC d_m11_piece_68 (by decide) ?_ ?_
            · refine Sm.sub [3, 4, 5, 6, 7, 2, 1, 0] rfl ?_
              exact w_m11_piece_78 hC hR r0 a1 a2 a3 a4 (a1 / (100 : Int32)) ((a1 / (10 : Int32)) - (a1 / (10 : Int32)) / (10 : Int32) * (10 : Int32)) v2 M5
            · refine Sm.sub [3] rfl ?_
              exact w_m11_piece_71 hC hR r0 M5
  · refine Sm.aload_n hC d_m11_piece_7 rfl 0 rfl ?_
    refine Sm.bipush (v := -2) hC d_m11_piece_8 (by decide) ?_
    refine Sm.callVi 11 (As := [.int (-2 : Int32)]) (st := []) hC hR cw_m11_refused (tw_i 1048 (by decide +kernel)) (tw_i 1050 (by decide +kernel)) (tw_i 23 (by decide +kernel)) ⟨_, rfl, rfl⟩ (fun r9 M9 h9 => ok_m11_refused h9) rfl rfl (RW.of ⟨rfl, rfl, by decide, by decide⟩) (by simp) d_m11_piece_10 (fun v6 M7 => ?_)
    exact Sm.iret hC d_m11_piece_13 rfl (Nat.sub_self _)
/-! NewsWireModel.look(II)I -/
abbrev b_m11_look : ByteArray := prog_13_method_12_code
def y_m11_look : MethodName := ⟨"NewsWireModel", "look", "(II)I"⟩
def rm_m11_look : Room := { frames := 3, cells := 0, slots := 0, locals := 103 }
theorem cw_m11_look : CW y_m11_look b_m11_look 3 (some .int) 2 := ⟨tw_i 66 (by decide +kernel), tw_i 1072 (by decide +kernel), by decide, by decide, by decide +kernel⟩
theorem d_m11_look_0 : decode b_m11_look 0 = .ok (.aload_n 0, 1) := by decide +kernel
theorem d_m11_look_1 : decode b_m11_look 1 = .ok (.iload_n 1, 1) := by decide +kernel
theorem d_m11_look_2 : decode b_m11_look 2 = .ok (.invokevirtual 152, 3) := by decide +kernel
theorem d_m11_look_5 : decode b_m11_look 5 = .ok (.ifCond .ne 10, 3) := by decide +kernel
theorem d_m11_look_8 : decode b_m11_look 8 = .ok (.aload_n 0, 1) := by decide +kernel
theorem d_m11_look_9 : decode b_m11_look 9 = .ok (.bipush (-3), 2) := by decide +kernel
theorem d_m11_look_11 : decode b_m11_look 11 = .ok (.invokevirtual 139, 3) := by decide +kernel
theorem d_m11_look_14 : decode b_m11_look 14 = .ok (.ireturn, 1) := by decide +kernel
theorem d_m11_look_15 : decode b_m11_look 15 = .ok (.iload_n 2, 1) := by decide +kernel
theorem d_m11_look_16 : decode b_m11_look 16 = .ok (.tableswitch 93 0 6 #[44, 51, 58, 65, 72, 79, 86], 44) := by decide +kernel
theorem d_m11_look_60 : decode b_m11_look 60 = .ok (.aload_n 0, 1) := by decide +kernel
theorem d_m11_look_61 : decode b_m11_look 61 = .ok (.getfield 22, 3) := by decide +kernel
theorem d_m11_look_64 : decode b_m11_look 64 = .ok (.iload_n 1, 1) := by decide +kernel
theorem d_m11_look_65 : decode b_m11_look 65 = .ok (.iaload, 1) := by decide +kernel
theorem d_m11_look_66 : decode b_m11_look 66 = .ok (.ireturn, 1) := by decide +kernel
theorem d_m11_look_67 : decode b_m11_look 67 = .ok (.aload_n 0, 1) := by decide +kernel
theorem d_m11_look_68 : decode b_m11_look 68 = .ok (.getfield 25, 3) := by decide +kernel
theorem d_m11_look_71 : decode b_m11_look 71 = .ok (.iload_n 1, 1) := by decide +kernel
theorem d_m11_look_72 : decode b_m11_look 72 = .ok (.iaload, 1) := by decide +kernel
theorem d_m11_look_73 : decode b_m11_look 73 = .ok (.ireturn, 1) := by decide +kernel
theorem d_m11_look_74 : decode b_m11_look 74 = .ok (.aload_n 0, 1) := by decide +kernel
theorem d_m11_look_75 : decode b_m11_look 75 = .ok (.getfield 28, 3) := by decide +kernel
theorem d_m11_look_78 : decode b_m11_look 78 = .ok (.iload_n 1, 1) := by decide +kernel
theorem d_m11_look_79 : decode b_m11_look 79 = .ok (.iaload, 1) := by decide +kernel
theorem d_m11_look_80 : decode b_m11_look 80 = .ok (.ireturn, 1) := by decide +kernel
theorem d_m11_look_81 : decode b_m11_look 81 = .ok (.aload_n 0, 1) := by decide +kernel
theorem d_m11_look_82 : decode b_m11_look 82 = .ok (.getfield 31, 3) := by decide +kernel
theorem d_m11_look_85 : decode b_m11_look 85 = .ok (.iload_n 1, 1) := by decide +kernel
theorem d_m11_look_86 : decode b_m11_look 86 = .ok (.iaload, 1) := by decide +kernel
theorem d_m11_look_87 : decode b_m11_look 87 = .ok (.ireturn, 1) := by decide +kernel
theorem d_m11_look_88 : decode b_m11_look 88 = .ok (.aload_n 0, 1) := by decide +kernel
theorem d_m11_look_89 : decode b_m11_look 89 = .ok (.getfield 34, 3) := by decide +kernel
theorem d_m11_look_92 : decode b_m11_look 92 = .ok (.iload_n 1, 1) := by decide +kernel
theorem d_m11_look_93 : decode b_m11_look 93 = .ok (.iaload, 1) := by decide +kernel
theorem d_m11_look_94 : decode b_m11_look 94 = .ok (.ireturn, 1) := by decide +kernel
theorem d_m11_look_95 : decode b_m11_look 95 = .ok (.aload_n 0, 1) := by decide +kernel
theorem d_m11_look_96 : decode b_m11_look 96 = .ok (.getfield 37, 3) := by decide +kernel
theorem d_m11_look_99 : decode b_m11_look 99 = .ok (.iload_n 1, 1) := by decide +kernel
theorem d_m11_look_100 : decode b_m11_look 100 = .ok (.iaload, 1) := by decide +kernel
theorem d_m11_look_101 : decode b_m11_look 101 = .ok (.ireturn, 1) := by decide +kernel
theorem d_m11_look_102 : decode b_m11_look 102 = .ok (.aload_n 0, 1) := by decide +kernel
theorem d_m11_look_103 : decode b_m11_look 103 = .ok (.getfield 40, 3) := by decide +kernel
theorem d_m11_look_106 : decode b_m11_look 106 = .ok (.iload_n 1, 1) := by decide +kernel
theorem d_m11_look_107 : decode b_m11_look 107 = .ok (.iaload, 1) := by decide +kernel
theorem d_m11_look_108 : decode b_m11_look 108 = .ok (.ireturn, 1) := by decide +kernel
theorem d_m11_look_109 : decode b_m11_look 109 = .ok (.aload_n 0, 1) := by decide +kernel
theorem d_m11_look_110 : decode b_m11_look 110 = .ok (.bipush (-7), 2) := by decide +kernel
theorem d_m11_look_112 : decode b_m11_look 112 = .ok (.invokevirtual 139, 3) := by decide +kernel
theorem d_m11_look_115 : decode b_m11_look 115 = .ok (.ireturn, 1) := by decide +kernel
def s_m11_look (r0 : Nat) (a1 : Int32) (a2 : Int32) (M : Mm) : Option (Int32 × Mm) := cl (has M r0 21) (s_m11_isPiece r0 a1 M) (fun v1 M2 => (if ¬ v1 = 0 then (if a2 = 0 then gR M2 r0 21 7 (fun v3 => aI M2 v3 0 a1 (fun v4 => some (v4, M2))) else if a2 = 1 then gR M2 r0 21 8 (fun v5 => aI M2 v5 0 a1 (fun v6 => some (v6, M2))) else if a2 = 2 then gR M2 r0 21 9 (fun v7 => aI M2 v7 0 a1 (fun v8 => some (v8, M2))) else if a2 = 3 then gR M2 r0 21 10 (fun v9 => aI M2 v9 0 a1 (fun v10 => some (v10, M2))) else if a2 = 4 then gR M2 r0 21 11 (fun v11 => aI M2 v11 0 a1 (fun v12 => some (v12, M2))) else if a2 = 5 then gR M2 r0 21 12 (fun v13 => aI M2 v13 0 a1 (fun v14 => some (v14, M2))) else if a2 = 6 then gR M2 r0 21 13 (fun v15 => aI M2 v15 0 a1 (fun v16 => some (v16, M2))) else cl (has M2 r0 21) (s_m11_refused r0 (-7 : Int32) M2) (fun v17 M18 => some (v17, M18))) else cl (has M2 r0 21) (s_m11_refused r0 (-3 : Int32) M2) (fun v19 M20 => some (v19, M20))))
set_option maxRecDepth 100000 in
set_option maxHeartbeats 4000000 in
theorem ok_m11_look {l : Launch} {V : Ev} {M M' : Mm} {r : Int32} {r0 : Nat} {a1 : Int32} {a2 : Int32} (h : s_m11_look r0 a1 a2 M = some (r, M')) : Met l y_m11_look (Cond.code y_m11_look b_m11_look 3 (some .int) :: TW) rm_m11_look (va_Pc [rv V.1 r0, .int a1, .int a2] (Wd V M)) (QC V (some (.int r)) M' 0) 0 0 (Af V) := by
  refine met_of (fun x : Int32 => some (.int x)) (lv0 := [(0, rv V.1 r0), (1, .int a1), (2, .int a2)]) (by decide) (by simp [lg_sl, cat_rv, cat_i, cat_l, cat_f]) (by simp [lv_args, cat_rv, cat_i, cat_l, cat_f]) (fun C hl hR hC => ?_) h
  subst hl
  generalize mN M = n0 at hC ⊢
  unfold s_m11_look
  refine Sm.aload_n hC d_m11_look_0 rfl 0 rfl ?_
  refine Sm.iload_n hC d_m11_look_1 rfl 1 rfl ?_
  refine Sm.callVi 11 (As := [.int a1]) (st := []) hC hR cw_m11_isPiece (tw_i 1060 (by decide +kernel)) (tw_i 1062 (by decide +kernel)) (tw_i 24 (by decide +kernel)) ⟨_, rfl, rfl⟩ (fun r9 M9 h9 => ok_m11_isPiece h9) rfl rfl (RW.of ⟨rfl, rfl, by decide, by decide⟩) (by simp) d_m11_look_2 (fun v1 M2 => ?_)
  refine Sm.if_ne (tgt := 15) hC d_m11_look_5 (by decide) ?_ ?_
  · refine Sm.iload_n hC d_m11_look_15 rfl 2 rfl ?_
    refine Sm.if_ (fun h9 => ?_) (fun h16_0 => ?_)
    · refine Sm.tswIn (tgt := 60) hC d_m11_look_16 (by rw [h9]; decide) (by rw [h9]; decide) (by rw [h9] <;> rfl) (by decide) ?_
      refine Sm.aload_n hC d_m11_look_60 rfl 0 rfl ?_
      refine Sm.getR hC fl_m11_22 rfl d_m11_look_61 (fun v3 => ?_)
      refine Sm.iload_n hC d_m11_look_64 rfl 1 rfl ?_
      refine Sm.iald hC d_m11_look_65 (fun v4 => ?_)
      exact Sm.iret hC d_m11_look_66 rfl (Nat.sub_self _)
    refine Sm.if_ (fun h9 => ?_) (fun h16_1 => ?_)
    · refine Sm.tswIn (tgt := 67) hC d_m11_look_16 (by rw [h9]; decide) (by rw [h9]; decide) (by rw [h9] <;> rfl) (by decide) ?_
      refine Sm.aload_n hC d_m11_look_67 rfl 0 rfl ?_
      refine Sm.getR hC fl_m11_25 rfl d_m11_look_68 (fun v5 => ?_)
      refine Sm.iload_n hC d_m11_look_71 rfl 1 rfl ?_
      refine Sm.iald hC d_m11_look_72 (fun v6 => ?_)
      exact Sm.iret hC d_m11_look_73 rfl (Nat.sub_self _)
    refine Sm.if_ (fun h9 => ?_) (fun h16_2 => ?_)
    · refine Sm.tswIn (tgt := 74) hC d_m11_look_16 (by rw [h9]; decide) (by rw [h9]; decide) (by rw [h9] <;> rfl) (by decide) ?_
      refine Sm.aload_n hC d_m11_look_74 rfl 0 rfl ?_
      refine Sm.getR hC fl_m11_28 rfl d_m11_look_75 (fun v7 => ?_)
      refine Sm.iload_n hC d_m11_look_78 rfl 1 rfl ?_
      refine Sm.iald hC d_m11_look_79 (fun v8 => ?_)
      exact Sm.iret hC d_m11_look_80 rfl (Nat.sub_self _)
    refine Sm.if_ (fun h9 => ?_) (fun h16_3 => ?_)
    · refine Sm.tswIn (tgt := 81) hC d_m11_look_16 (by rw [h9]; decide) (by rw [h9]; decide) (by rw [h9] <;> rfl) (by decide) ?_
      refine Sm.aload_n hC d_m11_look_81 rfl 0 rfl ?_
      refine Sm.getR hC fl_m11_31 rfl d_m11_look_82 (fun v9 => ?_)
      refine Sm.iload_n hC d_m11_look_85 rfl 1 rfl ?_
      refine Sm.iald hC d_m11_look_86 (fun v10 => ?_)
      exact Sm.iret hC d_m11_look_87 rfl (Nat.sub_self _)
    refine Sm.if_ (fun h9 => ?_) (fun h16_4 => ?_)
    · refine Sm.tswIn (tgt := 88) hC d_m11_look_16 (by rw [h9]; decide) (by rw [h9]; decide) (by rw [h9] <;> rfl) (by decide) ?_
      refine Sm.aload_n hC d_m11_look_88 rfl 0 rfl ?_
      refine Sm.getR hC fl_m11_34 rfl d_m11_look_89 (fun v11 => ?_)
      refine Sm.iload_n hC d_m11_look_92 rfl 1 rfl ?_
      refine Sm.iald hC d_m11_look_93 (fun v12 => ?_)
      exact Sm.iret hC d_m11_look_94 rfl (Nat.sub_self _)
    refine Sm.if_ (fun h9 => ?_) (fun h16_5 => ?_)
    · refine Sm.tswIn (tgt := 95) hC d_m11_look_16 (by rw [h9]; decide) (by rw [h9]; decide) (by rw [h9] <;> rfl) (by decide) ?_
      refine Sm.aload_n hC d_m11_look_95 rfl 0 rfl ?_
      refine Sm.getR hC fl_m11_37 rfl d_m11_look_96 (fun v13 => ?_)
      refine Sm.iload_n hC d_m11_look_99 rfl 1 rfl ?_
      refine Sm.iald hC d_m11_look_100 (fun v14 => ?_)
      exact Sm.iret hC d_m11_look_101 rfl (Nat.sub_self _)
    refine Sm.if_ (fun h9 => ?_) (fun h16_6 => ?_)
    · refine Sm.tswIn (tgt := 102) hC d_m11_look_16 (by rw [h9]; decide) (by rw [h9]; decide) (by rw [h9] <;> rfl) (by decide) ?_
      refine Sm.aload_n hC d_m11_look_102 rfl 0 rfl ?_
      refine Sm.getR hC fl_m11_40 rfl d_m11_look_103 (fun v15 => ?_)
      refine Sm.iload_n hC d_m11_look_106 rfl 1 rfl ?_
      refine Sm.iald hC d_m11_look_107 (fun v16 => ?_)
      exact Sm.iret hC d_m11_look_108 rfl (Nat.sub_self _)
    refine Sm.tswOut (tgt := 109) hC d_m11_look_16 (out_of (n := 7) (by decide) (fun i hi => by
        match i, hi with
        | 0, _ => exact h16_0
        | 1, _ => exact h16_1
        | 2, _ => exact h16_2
        | 3, _ => exact h16_3
        | 4, _ => exact h16_4
        | 5, _ => exact h16_5
        | 6, _ => exact h16_6)) (by decide) ?_
    refine Sm.aload_n hC d_m11_look_109 rfl 0 rfl ?_
    refine Sm.bipush (v := -7) hC d_m11_look_110 (by decide) ?_
    refine Sm.callVi 11 (As := [.int (-7 : Int32)]) (st := []) hC hR cw_m11_refused (tw_i 1048 (by decide +kernel)) (tw_i 1050 (by decide +kernel)) (tw_i 23 (by decide +kernel)) ⟨_, rfl, rfl⟩ (fun r9 M9 h9 => ok_m11_refused h9) rfl rfl (RW.of ⟨rfl, rfl, by decide, by decide⟩) (by simp) d_m11_look_112 (fun v17 M18 => ?_)
    exact Sm.iret hC d_m11_look_115 rfl (Nat.sub_self _)
  · refine Sm.aload_n hC d_m11_look_8 rfl 0 rfl ?_
    refine Sm.bipush (v := -3) hC d_m11_look_9 (by decide) ?_
    refine Sm.callVi 11 (As := [.int (-3 : Int32)]) (st := []) hC hR cw_m11_refused (tw_i 1048 (by decide +kernel)) (tw_i 1050 (by decide +kernel)) (tw_i 23 (by decide +kernel)) ⟨_, rfl, rfl⟩ (fun r9 M9 h9 => ok_m11_refused h9) rfl rfl (RW.of ⟨rfl, rfl, by decide, by decide⟩) (by simp) d_m11_look_11 (fun v19 M20 => ?_)
    exact Sm.iret hC d_m11_look_14 rfl (Nat.sub_self _)
/-! NewsWireModel.word(II)I -/
abbrev b_m11_word : ByteArray := prog_13_method_13_code
def y_m11_word : MethodName := ⟨"NewsWireModel", "word", "(II)I"⟩
def rm_m11_word : Room := { frames := 3, cells := 0, slots := 0, locals := 103 }
theorem cw_m11_word : CW y_m11_word b_m11_word 3 (some .int) 2 := ⟨tw_i 66 (by decide +kernel), tw_i 1076 (by decide +kernel), by decide, by decide, by decide +kernel⟩
theorem d_m11_word_0 : decode b_m11_word 0 = .ok (.aload_n 0, 1) := by decide +kernel
theorem d_m11_word_1 : decode b_m11_word 1 = .ok (.iload_n 1, 1) := by decide +kernel
theorem d_m11_word_2 : decode b_m11_word 2 = .ok (.invokevirtual 152, 3) := by decide +kernel
theorem d_m11_word_5 : decode b_m11_word 5 = .ok (.ifCond .eq 33, 3) := by decide +kernel
theorem d_m11_word_8 : decode b_m11_word 8 = .ok (.iload_n 2, 1) := by decide +kernel
theorem d_m11_word_9 : decode b_m11_word 9 = .ok (.iconst 0, 1) := by decide +kernel
theorem d_m11_word_10 : decode b_m11_word 10 = .ok (.aload_n 0, 1) := by decide +kernel
theorem d_m11_word_11 : decode b_m11_word 11 = .ok (.getfield 34, 3) := by decide +kernel
theorem d_m11_word_14 : decode b_m11_word 14 = .ok (.iload_n 1, 1) := by decide +kernel
theorem d_m11_word_15 : decode b_m11_word 15 = .ok (.iaload, 1) := by decide +kernel
theorem d_m11_word_16 : decode b_m11_word 16 = .ok (.iconst 1, 1) := by decide +kernel
theorem d_m11_word_17 : decode b_m11_word 17 = .ok (.isub, 1) := by decide +kernel
theorem d_m11_word_18 : decode b_m11_word 18 = .ok (.invokestatic 135, 3) := by decide +kernel
theorem d_m11_word_21 : decode b_m11_word 21 = .ok (.ifCond .eq 17, 3) := by decide +kernel
theorem d_m11_word_24 : decode b_m11_word 24 = .ok (.aload_n 0, 1) := by decide +kernel
theorem d_m11_word_25 : decode b_m11_word 25 = .ok (.getfield 43, 3) := by decide +kernel
theorem d_m11_word_28 : decode b_m11_word 28 = .ok (.bipush 12, 2) := by decide +kernel
theorem d_m11_word_30 : decode b_m11_word 30 = .ok (.iload_n 1, 1) := by decide +kernel
theorem d_m11_word_31 : decode b_m11_word 31 = .ok (.imul, 1) := by decide +kernel
theorem d_m11_word_32 : decode b_m11_word 32 = .ok (.iload_n 2, 1) := by decide +kernel
theorem d_m11_word_33 : decode b_m11_word 33 = .ok (.iadd, 1) := by decide +kernel
theorem d_m11_word_34 : decode b_m11_word 34 = .ok (.iaload, 1) := by decide +kernel
theorem d_m11_word_35 : decode b_m11_word 35 = .ok (.goto 9, 3) := by decide +kernel
theorem d_m11_word_38 : decode b_m11_word 38 = .ok (.aload_n 0, 1) := by decide +kernel
theorem d_m11_word_39 : decode b_m11_word 39 = .ok (.bipush (-3), 2) := by decide +kernel
theorem d_m11_word_41 : decode b_m11_word 41 = .ok (.invokevirtual 139, 3) := by decide +kernel
theorem d_m11_word_44 : decode b_m11_word 44 = .ok (.ireturn, 1) := by decide +kernel
def s_m11_word_44  (t0 : Int32) (M : Mm) : Option (Int32 × Mm) := some (t0, M)
def s_m11_word_38  (r0 : Nat) (M : Mm) : Option (Int32 × Mm) := cl (has M r0 21) (s_m11_refused r0 (-3 : Int32) M) (fun v1 M2 => s_m11_word_44 v1 M2)
def s_m11_word (r0 : Nat) (a1 : Int32) (a2 : Int32) (M : Mm) : Option (Int32 × Mm) := cl (has M r0 21) (s_m11_isPiece r0 a1 M) (fun v1 M2 => (if v1 = 0 then s_m11_word_38 r0 M2 else gR M2 r0 21 11 (fun v3 => aI M2 v3 0 a1 (fun v4 => cl true (s_m11_in a2 (0 : Int32) (v4 - (1 : Int32)) M2) (fun v5 M6 => (if v5 = 0 then s_m11_word_38 r0 M6 else gR M6 r0 21 14 (fun v7 => aI M6 v7 0 (((12 : Int32) * a1) + a2) (fun v8 => s_m11_word_44 v8 M6))))))))
set_option maxRecDepth 100000 in
set_option maxHeartbeats 4000000 in
theorem w_m11_word_44 {V : Ev} {C : Cx} {n0 : Nat} (hC : Cok V C y_m11_word.cls b_m11_word 3 n0 (some .int) y_m11_word.name) (hR : cR C = rm_m11_word)  : ∀ (t0 : Int32) (M : Mm), Sm V C 3 n0 n0 (qI V C) 44 [] [.int t0] M (s_m11_word_44 t0 M) := by
  intro t0 M
  unfold s_m11_word_44
  exact Sm.iret hC d_m11_word_44 rfl (Nat.sub_self _)
set_option maxRecDepth 100000 in
set_option maxHeartbeats 4000000 in
theorem w_m11_word_38 {V : Ev} {C : Cx} {n0 : Nat} (hC : Cok V C y_m11_word.cls b_m11_word 3 n0 (some .int) y_m11_word.name) (hR : cR C = rm_m11_word)  : ∀ (r0 : Nat) (M : Mm), Sm V C 3 n0 n0 (qI V C) 38 [(0, rv V.1 r0)] [] M (s_m11_word_38 r0 M) := by
  intro r0 M
  unfold s_m11_word_38
  refine Sm.aload_n hC d_m11_word_38 rfl 0 rfl ?_
  refine Sm.bipush (v := -3) hC d_m11_word_39 (by decide) ?_
  refine Sm.callVi 11 (As := [.int (-3 : Int32)]) (st := []) hC hR cw_m11_refused (tw_i 1048 (by decide +kernel)) (tw_i 1050 (by decide +kernel)) (tw_i 23 (by decide +kernel)) ⟨_, rfl, rfl⟩ (fun r9 M9 h9 => ok_m11_refused h9) rfl rfl (RW.of ⟨rfl, rfl, by decide, by decide⟩) (by simp) d_m11_word_41 (fun v1 M2 => ?_)
  refine Sm.sub [] rfl ?_
  exact w_m11_word_44 hC hR v1 M2
set_option maxRecDepth 100000 in
set_option maxHeartbeats 4000000 in
theorem ok_m11_word {l : Launch} {V : Ev} {M M' : Mm} {r : Int32} {r0 : Nat} {a1 : Int32} {a2 : Int32} (h : s_m11_word r0 a1 a2 M = some (r, M')) : Met l y_m11_word (Cond.code y_m11_word b_m11_word 3 (some .int) :: TW) rm_m11_word (va_Pc [rv V.1 r0, .int a1, .int a2] (Wd V M)) (QC V (some (.int r)) M' 0) 0 0 (Af V) := by
  refine met_of (fun x : Int32 => some (.int x)) (lv0 := [(0, rv V.1 r0), (1, .int a1), (2, .int a2)]) (by decide) (by simp [lg_sl, cat_rv, cat_i, cat_l, cat_f]) (by simp [lv_args, cat_rv, cat_i, cat_l, cat_f]) (fun C hl hR hC => ?_) h
  subst hl
  generalize mN M = n0 at hC ⊢
  unfold s_m11_word
  refine Sm.aload_n hC d_m11_word_0 rfl 0 rfl ?_
  refine Sm.iload_n hC d_m11_word_1 rfl 1 rfl ?_
  refine Sm.callVi 11 (As := [.int a1]) (st := []) hC hR cw_m11_isPiece (tw_i 1060 (by decide +kernel)) (tw_i 1062 (by decide +kernel)) (tw_i 24 (by decide +kernel)) ⟨_, rfl, rfl⟩ (fun r9 M9 h9 => ok_m11_isPiece h9) rfl rfl (RW.of ⟨rfl, rfl, by decide, by decide⟩) (by simp) d_m11_word_2 (fun v1 M2 => ?_)
  refine Sm.if_eq (tgt := 38) hC d_m11_word_5 (by decide) ?_ ?_
  · refine Sm.sub [0] rfl ?_
    exact w_m11_word_38 hC hR r0 M2
  · refine Sm.iload_n hC d_m11_word_8 rfl 2 rfl ?_
    refine Sm.iconst (v := 0) hC d_m11_word_9 (by decide) ?_
    refine Sm.aload_n hC d_m11_word_10 rfl 0 rfl ?_
    refine Sm.getR hC fl_m11_34 rfl d_m11_word_11 (fun v3 => ?_)
    refine Sm.iload_n hC d_m11_word_14 rfl 1 rfl ?_
    refine Sm.iald hC d_m11_word_15 (fun v4 => ?_)
    refine Sm.iconst (v := 1) hC d_m11_word_16 (by decide) ?_
    refine Sm.isub hC d_m11_word_17 ?_
    refine Sm.callSi (As := [.int a2, .int (0 : Int32), .int (v4 - (1 : Int32))]) (st := []) hC hR cw_m11_in (tw_i 1045 (by decide +kernel)) (tw_i 1046 (by decide +kernel)) (fun r9 M9 h9 => ok_m11_in h9) rfl rfl (RW.of ⟨rfl, rfl, by decide, by decide⟩) (by simp) d_m11_word_18 (fun v5 M6 => ?_)
    refine Sm.if_eq (tgt := 38) hC d_m11_word_21 (by decide) ?_ ?_
    · refine Sm.sub [0] rfl ?_
      exact w_m11_word_38 hC hR r0 M6
    · refine Sm.aload_n hC d_m11_word_24 rfl 0 rfl ?_
      refine Sm.getR hC fl_m11_43 rfl d_m11_word_25 (fun v7 => ?_)
      refine Sm.bipush (v := 12) hC d_m11_word_28 (by decide) ?_
      refine Sm.iload_n hC d_m11_word_30 rfl 1 rfl ?_
      refine Sm.imul hC d_m11_word_31 ?_
      refine Sm.iload_n hC d_m11_word_32 rfl 2 rfl ?_
      refine Sm.iadd hC d_m11_word_33 ?_
      refine Sm.iald hC d_m11_word_34 (fun v8 => ?_)
      refine Sm.goto (tgt := 44) hC d_m11_word_35 (by decide) ?_
      refine Sm.sub [] rfl ?_
      exact w_m11_word_44 hC hR v8 M6
/-! NewsWireModel.feed(II)I -/
theorem fl_m11_160 : FL "NewsWireModel" 160 11 26 0 false .int := ⟨_, _, _, _, rfl, in_c11, ty_c11, nm_c11, by decide, rfl, tw_i 891 (by decide +kernel), rfl, rfl, rfl, rfl⟩
theorem fl_m11_73 : FL "NewsWireModel" 73 11 27 2 true (.array .int) := ⟨_, _, _, _, rfl, in_c11, ty_c11, nm_c11, by decide, rfl, tw_i 892 (by decide +kernel), rfl, rfl, rfl, rfl⟩
abbrev b_m11_feed : ByteArray := prog_13_method_14_code
def y_m11_feed : MethodName := ⟨"NewsWireModel", "feed", "(II)I"⟩
def rm_m11_feed : Room := { frames := 2, cells := 0, slots := 0, locals := 81 }
theorem cw_m11_feed : CW y_m11_feed b_m11_feed 4 (some .int) 2 := ⟨tw_i 66 (by decide +kernel), tw_i 1080 (by decide +kernel), by decide, by decide, by decide +kernel⟩
theorem d_m11_feed_0 : decode b_m11_feed 0 = .ok (.iload_n 2, 1) := by decide +kernel
theorem d_m11_feed_1 : decode b_m11_feed 1 = .ok (.ifCond .ge 10, 3) := by decide +kernel
theorem d_m11_feed_4 : decode b_m11_feed 4 = .ok (.aload_n 0, 1) := by decide +kernel
theorem d_m11_feed_5 : decode b_m11_feed 5 = .ok (.bipush (-4), 2) := by decide +kernel
theorem d_m11_feed_7 : decode b_m11_feed 7 = .ok (.invokevirtual 139, 3) := by decide +kernel
theorem d_m11_feed_10 : decode b_m11_feed 10 = .ok (.ireturn, 1) := by decide +kernel
theorem d_m11_feed_11 : decode b_m11_feed 11 = .ok (.iload_n 2, 1) := by decide +kernel
theorem d_m11_feed_12 : decode b_m11_feed 12 = .ok (.iconst 4, 1) := by decide +kernel
theorem d_m11_feed_13 : decode b_m11_feed 13 = .ok (.if_icmp .le 10, 3) := by decide +kernel
theorem d_m11_feed_16 : decode b_m11_feed 16 = .ok (.aload_n 0, 1) := by decide +kernel
theorem d_m11_feed_17 : decode b_m11_feed 17 = .ok (.bipush (-7), 2) := by decide +kernel
theorem d_m11_feed_19 : decode b_m11_feed 19 = .ok (.invokevirtual 139, 3) := by decide +kernel
theorem d_m11_feed_22 : decode b_m11_feed 22 = .ok (.ireturn, 1) := by decide +kernel
theorem d_m11_feed_23 : decode b_m11_feed 23 = .ok (.aload_n 0, 1) := by decide +kernel
theorem d_m11_feed_24 : decode b_m11_feed 24 = .ok (.getfield 160, 3) := by decide +kernel
theorem d_m11_feed_27 : decode b_m11_feed 27 = .ok (.iload_n 2, 1) := by decide +kernel
theorem d_m11_feed_28 : decode b_m11_feed 28 = .ok (.iadd, 1) := by decide +kernel
theorem d_m11_feed_29 : decode b_m11_feed 29 = .ok (.bipush 80, 2) := by decide +kernel
theorem d_m11_feed_31 : decode b_m11_feed 31 = .ok (.if_icmp .le 10, 3) := by decide +kernel
theorem d_m11_feed_34 : decode b_m11_feed 34 = .ok (.aload_n 0, 1) := by decide +kernel
theorem d_m11_feed_35 : decode b_m11_feed 35 = .ok (.bipush (-8), 2) := by decide +kernel
theorem d_m11_feed_37 : decode b_m11_feed 37 = .ok (.invokevirtual 139, 3) := by decide +kernel
theorem d_m11_feed_40 : decode b_m11_feed 40 = .ok (.ireturn, 1) := by decide +kernel
theorem d_m11_feed_41 : decode b_m11_feed 41 = .ok (.iload_n 2, 1) := by decide +kernel
theorem d_m11_feed_42 : decode b_m11_feed 42 = .ok (.iconst 1, 1) := by decide +kernel
theorem d_m11_feed_43 : decode b_m11_feed 43 = .ok (.isub, 1) := by decide +kernel
theorem d_m11_feed_44 : decode b_m11_feed 44 = .ok (.istore_n 3, 1) := by decide +kernel
theorem d_m11_feed_45 : decode b_m11_feed 45 = .ok (.iload_n 3, 1) := by decide +kernel
theorem d_m11_feed_46 : decode b_m11_feed 46 = .ok (.ifCond .lt 38, 3) := by decide +kernel
theorem d_m11_feed_49 : decode b_m11_feed 49 = .ok (.aload_n 0, 1) := by decide +kernel
theorem d_m11_feed_50 : decode b_m11_feed 50 = .ok (.getfield 73, 3) := by decide +kernel
theorem d_m11_feed_53 : decode b_m11_feed 53 = .ok (.aload_n 0, 1) := by decide +kernel
theorem d_m11_feed_54 : decode b_m11_feed 54 = .ok (.getfield 160, 3) := by decide +kernel
theorem d_m11_feed_57 : decode b_m11_feed 57 = .ok (.iload_n 1, 1) := by decide +kernel
theorem d_m11_feed_58 : decode b_m11_feed 58 = .ok (.bipush 8, 2) := by decide +kernel
theorem d_m11_feed_60 : decode b_m11_feed 60 = .ok (.iload_n 3, 1) := by decide +kernel
theorem d_m11_feed_61 : decode b_m11_feed 61 = .ok (.imul, 1) := by decide +kernel
theorem d_m11_feed_62 : decode b_m11_feed 62 = .ok (.ishr, 1) := by decide +kernel
theorem d_m11_feed_63 : decode b_m11_feed 63 = .ok (.sipush 255, 3) := by decide +kernel
theorem d_m11_feed_66 : decode b_m11_feed 66 = .ok (.iand, 1) := by decide +kernel
theorem d_m11_feed_67 : decode b_m11_feed 67 = .ok (.iastore, 1) := by decide +kernel
theorem d_m11_feed_68 : decode b_m11_feed 68 = .ok (.aload_n 0, 1) := by decide +kernel
theorem d_m11_feed_69 : decode b_m11_feed 69 = .ok (.dup, 1) := by decide +kernel
theorem d_m11_feed_70 : decode b_m11_feed 70 = .ok (.getfield 160, 3) := by decide +kernel
theorem d_m11_feed_73 : decode b_m11_feed 73 = .ok (.iconst 1, 1) := by decide +kernel
theorem d_m11_feed_74 : decode b_m11_feed 74 = .ok (.iadd, 1) := by decide +kernel
theorem d_m11_feed_75 : decode b_m11_feed 75 = .ok (.putfield 160, 3) := by decide +kernel
theorem d_m11_feed_78 : decode b_m11_feed 78 = .ok (.iinc 3 (-1), 3) := by decide +kernel
theorem d_m11_feed_81 : decode b_m11_feed 81 = .ok (.goto (-36), 3) := by decide +kernel
theorem d_m11_feed_84 : decode b_m11_feed 84 = .ok (.aload_n 0, 1) := by decide +kernel
theorem d_m11_feed_85 : decode b_m11_feed 85 = .ok (.getfield 160, 3) := by decide +kernel
theorem d_m11_feed_88 : decode b_m11_feed 88 = .ok (.ireturn, 1) := by decide +kernel
def s_m11_feed_45  : Nat → Nat → Int32 → Int32 → Mm → Option (Int32 × Mm)
  | 0, _, _, _, _ => none
  | n + 1, r0, x1, x3, M => (if x3 < 0 then gI M r0 21 26 (fun v1 => some (v1, M)) else gR M r0 21 27 (fun v2 => gI M r0 21 26 (fun v3 => sI M v2 0 v3 ((x1 >>> (((8 : Int32) * x3) &&& 31)) &&& (255 : Int32)) (fun M4 => gI M4 r0 21 26 (fun v5 => pI M4 r0 21 26 (v5 + (1 : Int32)) (fun M6 => (s_m11_feed_45 n) r0 x1 (x3 + (-1)) M6))))))
def s_m11_feed (r0 : Nat) (a1 : Int32) (a2 : Int32) (M : Mm) : Option (Int32 × Mm) := (if 0 ≤ a2 then (if a2 ≤ (4 : Int32) then gI M r0 21 26 (fun v1 => (if (v1 + a2) ≤ (80 : Int32) then s_m11_feed_45 FU r0 a1 (a2 - (1 : Int32)) M else cl (has M r0 21) (s_m11_refused r0 (-8 : Int32) M) (fun v2 M3 => some (v2, M3)))) else cl (has M r0 21) (s_m11_refused r0 (-7 : Int32) M) (fun v4 M5 => some (v4, M5))) else cl (has M r0 21) (s_m11_refused r0 (-4 : Int32) M) (fun v6 M7 => some (v6, M7)))
set_option maxRecDepth 100000 in
set_option maxHeartbeats 4000000 in
theorem w_m11_feed_45 {V : Ev} {C : Cx} {n0 : Nat} (hC : Cok V C y_m11_feed.cls b_m11_feed 4 n0 (some .int) y_m11_feed.name) (hR : cR C = rm_m11_feed)  : ∀ (n : Nat) (r0 : Nat) (x1 : Int32) (x3 : Int32) (M : Mm), Sm V C 4 n0 n0 (qI V C) 45 [(0, rv V.1 r0), (1, .int x1), (3, .int x3)] [] M (s_m11_feed_45 n r0 x1 x3 M) := by
  intro n
  induction n with
  | zero => exact fun r0 x1 x3 M => Sm.none_
  | succ n ih =>
    intro r0 x1 x3 M
    unfold s_m11_feed_45
    refine Sm.iload_n hC d_m11_feed_45 rfl 2 rfl ?_
    refine Sm.if_lt (tgt := 84) hC d_m11_feed_46 (by decide) ?_ ?_
    · refine Sm.aload_n hC d_m11_feed_84 rfl 0 rfl ?_
      refine Sm.getI hC fl_m11_160 rfl d_m11_feed_85 (fun v1 => ?_)
      exact Sm.iret hC d_m11_feed_88 rfl (Nat.sub_self _)
    · refine Sm.aload_n hC d_m11_feed_49 rfl 0 rfl ?_
      refine Sm.getR hC fl_m11_73 rfl d_m11_feed_50 (fun v2 => ?_)
      refine Sm.aload_n hC d_m11_feed_53 rfl 0 rfl ?_
      refine Sm.getI hC fl_m11_160 rfl d_m11_feed_54 (fun v3 => ?_)
      refine Sm.iload_n hC d_m11_feed_57 rfl 1 rfl ?_
      refine Sm.bipush (v := 8) hC d_m11_feed_58 (by decide) ?_
      refine Sm.iload_n hC d_m11_feed_60 rfl 2 rfl ?_
      refine Sm.imul hC d_m11_feed_61 ?_
      refine Sm.ishr hC d_m11_feed_62 ?_
      refine Sm.sipush (v := 255) hC d_m11_feed_63 (by decide) ?_
      refine Sm.iand hC d_m11_feed_66 ?_
      refine Sm.iast hC d_m11_feed_67 (fun M4 => ?_)
      refine Sm.aload_n hC d_m11_feed_68 rfl 0 rfl ?_
      refine Sm.dup hC d_m11_feed_69 (cat_rv _ _) ?_
      refine Sm.getI hC fl_m11_160 rfl d_m11_feed_70 (fun v5 => ?_)
      refine Sm.iconst (v := 1) hC d_m11_feed_73 (by decide) ?_
      refine Sm.iadd hC d_m11_feed_74 ?_
      refine Sm.putI hC fl_m11_160 rfl d_m11_feed_75 (fun M6 => ?_)
      refine Sm.iinc (v := x3 + (-1)) (lv' := [(3, .int (x3 + (-1))), (0, rv V.1 r0), (1, .int x1)]) hC d_m11_feed_78 2 rfl rfl (by decide) rfl ?_
      refine Sm.goto (tgt := 45) hC d_m11_feed_81 (by decide) ?_
      refine Sm.sub [1, 2, 0] rfl ?_
      exact ih r0 x1 (x3 + (-1)) M6
set_option maxRecDepth 100000 in
set_option maxHeartbeats 4000000 in
theorem ok_m11_feed {l : Launch} {V : Ev} {M M' : Mm} {r : Int32} {r0 : Nat} {a1 : Int32} {a2 : Int32} (h : s_m11_feed r0 a1 a2 M = some (r, M')) : Met l y_m11_feed (Cond.code y_m11_feed b_m11_feed 4 (some .int) :: TW) rm_m11_feed (va_Pc [rv V.1 r0, .int a1, .int a2] (Wd V M)) (QC V (some (.int r)) M' 0) 0 0 (Af V) := by
  refine met_of (fun x : Int32 => some (.int x)) (lv0 := [(0, rv V.1 r0), (1, .int a1), (2, .int a2)]) (by decide) (by simp [lg_sl, cat_rv, cat_i, cat_l, cat_f]) (by simp [lv_args, cat_rv, cat_i, cat_l, cat_f]) (fun C hl hR hC => ?_) h
  subst hl
  generalize mN M = n0 at hC ⊢
  unfold s_m11_feed
  refine Sm.iload_n hC d_m11_feed_0 rfl 2 rfl ?_
  refine Sm.if_ge (tgt := 11) hC d_m11_feed_1 (by decide) ?_ ?_
  · refine Sm.iload_n hC d_m11_feed_11 rfl 2 rfl ?_
    refine Sm.iconst (v := 4) hC d_m11_feed_12 (by decide) ?_
    refine Sm.icmp_le (tgt := 23) hC d_m11_feed_13 (by decide) ?_ ?_
    · refine Sm.aload_n hC d_m11_feed_23 rfl 0 rfl ?_
      refine Sm.getI hC fl_m11_160 rfl d_m11_feed_24 (fun v1 => ?_)
      refine Sm.iload_n hC d_m11_feed_27 rfl 2 rfl ?_
      refine Sm.iadd hC d_m11_feed_28 ?_
      refine Sm.bipush (v := 80) hC d_m11_feed_29 (by decide) ?_
      refine Sm.icmp_le (tgt := 41) hC d_m11_feed_31 (by decide) ?_ ?_
      · refine Sm.iload_n hC d_m11_feed_41 rfl 2 rfl ?_
        refine Sm.iconst (v := 1) hC d_m11_feed_42 (by decide) ?_
        refine Sm.isub hC d_m11_feed_43 ?_
        refine Sm.istore_n (lv' := [(3, .int (a2 - (1 : Int32))), (0, rv V.1 r0), (1, .int a1), (2, .int a2)]) hC d_m11_feed_44 rfl (by decide) rfl ?_
        refine Sm.sub [1, 2, 0] rfl ?_
        exact w_m11_feed_45 hC hR FU r0 a1 (a2 - (1 : Int32)) M
      · refine Sm.aload_n hC d_m11_feed_34 rfl 0 rfl ?_
        refine Sm.bipush (v := -8) hC d_m11_feed_35 (by decide) ?_
        refine Sm.callVi 11 (As := [.int (-8 : Int32)]) (st := []) hC hR cw_m11_refused (tw_i 1048 (by decide +kernel)) (tw_i 1050 (by decide +kernel)) (tw_i 23 (by decide +kernel)) ⟨_, rfl, rfl⟩ (fun r9 M9 h9 => ok_m11_refused h9) rfl rfl (RW.of ⟨rfl, rfl, by decide, by decide⟩) (by simp) d_m11_feed_37 (fun v2 M3 => ?_)
        exact Sm.iret hC d_m11_feed_40 rfl (Nat.sub_self _)
    · refine Sm.aload_n hC d_m11_feed_16 rfl 0 rfl ?_
      refine Sm.bipush (v := -7) hC d_m11_feed_17 (by decide) ?_
      refine Sm.callVi 11 (As := [.int (-7 : Int32)]) (st := []) hC hR cw_m11_refused (tw_i 1048 (by decide +kernel)) (tw_i 1050 (by decide +kernel)) (tw_i 23 (by decide +kernel)) ⟨_, rfl, rfl⟩ (fun r9 M9 h9 => ok_m11_refused h9) rfl rfl (RW.of ⟨rfl, rfl, by decide, by decide⟩) (by simp) d_m11_feed_19 (fun v4 M5 => ?_)
      exact Sm.iret hC d_m11_feed_22 rfl (Nat.sub_self _)
  · refine Sm.aload_n hC d_m11_feed_4 rfl 0 rfl ?_
    refine Sm.bipush (v := -4) hC d_m11_feed_5 (by decide) ?_
    refine Sm.callVi 11 (As := [.int (-4 : Int32)]) (st := []) hC hR cw_m11_refused (tw_i 1048 (by decide +kernel)) (tw_i 1050 (by decide +kernel)) (tw_i 23 (by decide +kernel)) ⟨_, rfl, rfl⟩ (fun r9 M9 h9 => ok_m11_refused h9) rfl rfl (RW.of ⟨rfl, rfl, by decide, by decide⟩) (by simp) d_m11_feed_7 (fun v6 M7 => ?_)
    exact Sm.iret hC d_m11_feed_10 rfl (Nat.sub_self _)
/-! NewsWireModel.wipe()I -/
abbrev b_m11_wipe : ByteArray := prog_13_method_15_code
def y_m11_wipe : MethodName := ⟨"NewsWireModel", "wipe", "()I"⟩
def rm_m11_wipe : Room := { frames := 1, cells := 0, slots := 0, locals := 60 }
theorem cw_m11_wipe : CW y_m11_wipe b_m11_wipe 2 (some .int) 0 := ⟨tw_i 66 (by decide +kernel), tw_i 1084 (by decide +kernel), by decide, by decide, by decide +kernel⟩
theorem d_m11_wipe_0 : decode b_m11_wipe 0 = .ok (.aload_n 0, 1) := by decide +kernel
theorem d_m11_wipe_1 : decode b_m11_wipe 1 = .ok (.getfield 160, 3) := by decide +kernel
theorem d_m11_wipe_4 : decode b_m11_wipe 4 = .ok (.istore_n 1, 1) := by decide +kernel
theorem d_m11_wipe_5 : decode b_m11_wipe 5 = .ok (.aload_n 0, 1) := by decide +kernel
theorem d_m11_wipe_6 : decode b_m11_wipe 6 = .ok (.iconst 0, 1) := by decide +kernel
theorem d_m11_wipe_7 : decode b_m11_wipe 7 = .ok (.putfield 160, 3) := by decide +kernel
theorem d_m11_wipe_10 : decode b_m11_wipe 10 = .ok (.iload_n 1, 1) := by decide +kernel
theorem d_m11_wipe_11 : decode b_m11_wipe 11 = .ok (.ireturn, 1) := by decide +kernel
def s_m11_wipe (r0 : Nat) (M : Mm) : Option (Int32 × Mm) := gI M r0 21 26 (fun v1 => pI M r0 21 26 (0 : Int32) (fun M2 => some (v1, M2)))
set_option maxRecDepth 100000 in
set_option maxHeartbeats 4000000 in
theorem ok_m11_wipe {l : Launch} {V : Ev} {M M' : Mm} {r : Int32} {r0 : Nat} (h : s_m11_wipe r0 M = some (r, M')) : Met l y_m11_wipe (Cond.code y_m11_wipe b_m11_wipe 2 (some .int) :: TW) rm_m11_wipe (va_Pc [rv V.1 r0] (Wd V M)) (QC V (some (.int r)) M' 0) 0 0 (Af V) := by
  refine met_of (fun x : Int32 => some (.int x)) (lv0 := [(0, rv V.1 r0)]) (by decide) (by simp [lg_sl, cat_rv, cat_i, cat_l, cat_f]) (by simp [lv_args, cat_rv, cat_i, cat_l, cat_f]) (fun C hl hR hC => ?_) h
  subst hl
  generalize mN M = n0 at hC ⊢
  unfold s_m11_wipe
  refine Sm.aload_n hC d_m11_wipe_0 rfl 0 rfl ?_
  refine Sm.getI hC fl_m11_160 rfl d_m11_wipe_1 (fun v1 => ?_)
  refine Sm.istore_n (i := 1) (lv' := [(1, .int v1), (0, rv V.1 r0)]) hC d_m11_wipe_4 rfl (by decide) (by simp [cat_rv, cat_i, cat_l, cat_f]) ?_
  refine Sm.aload_n hC d_m11_wipe_5 rfl 1 rfl ?_
  refine Sm.iconst (v := 0) hC d_m11_wipe_6 (by decide) ?_
  refine Sm.putI hC fl_m11_160 rfl d_m11_wipe_7 (fun M2 => ?_)
  refine Sm.iload_n hC d_m11_wipe_10 rfl 0 rfl ?_
  exact Sm.iret hC d_m11_wipe_11 rfl (Nat.sub_self _)
/-! NewsWireModel.here()I -/
theorem fl_m11_163 : FL "NewsWireModel" 163 11 28 0 false .int := ⟨_, _, _, _, rfl, in_c11, ty_c11, nm_c11, by decide, rfl, tw_i 893 (by decide +kernel), rfl, rfl, rfl, rfl⟩
abbrev b_m11_here : ByteArray := prog_13_method_16_code
def y_m11_here : MethodName := ⟨"NewsWireModel", "here", "()I"⟩
def rm_m11_here : Room := { frames := 1, cells := 0, slots := 0, locals := 60 }
theorem cw_m11_here : CW y_m11_here b_m11_here 1 (some .int) 0 := ⟨tw_i 66 (by decide +kernel), tw_i 1100 (by decide +kernel), by decide, by decide, by decide +kernel⟩
theorem d_m11_here_0 : decode b_m11_here 0 = .ok (.aload_n 0, 1) := by decide +kernel
theorem d_m11_here_1 : decode b_m11_here 1 = .ok (.getfield 163, 3) := by decide +kernel
theorem d_m11_here_4 : decode b_m11_here 4 = .ok (.aload_n 0, 1) := by decide +kernel
theorem d_m11_here_5 : decode b_m11_here 5 = .ok (.getfield 160, 3) := by decide +kernel
theorem d_m11_here_8 : decode b_m11_here 8 = .ok (.if_icmp .ge 15, 3) := by decide +kernel
theorem d_m11_here_11 : decode b_m11_here 11 = .ok (.aload_n 0, 1) := by decide +kernel
theorem d_m11_here_12 : decode b_m11_here 12 = .ok (.getfield 73, 3) := by decide +kernel
theorem d_m11_here_15 : decode b_m11_here 15 = .ok (.aload_n 0, 1) := by decide +kernel
theorem d_m11_here_16 : decode b_m11_here 16 = .ok (.getfield 163, 3) := by decide +kernel
theorem d_m11_here_19 : decode b_m11_here 19 = .ok (.iaload, 1) := by decide +kernel
theorem d_m11_here_20 : decode b_m11_here 20 = .ok (.goto 4, 3) := by decide +kernel
theorem d_m11_here_23 : decode b_m11_here 23 = .ok (.iconst (-1), 1) := by decide +kernel
theorem d_m11_here_24 : decode b_m11_here 24 = .ok (.ireturn, 1) := by decide +kernel
def s_m11_here_24  (t0 : Int32) (M : Mm) : Option (Int32 × Mm) := some (t0, M)
def s_m11_here (r0 : Nat) (M : Mm) : Option (Int32 × Mm) := gI M r0 21 28 (fun v1 => gI M r0 21 26 (fun v2 => (if v2 ≤ v1 then s_m11_here_24 (-1 : Int32) M else gR M r0 21 27 (fun v3 => gI M r0 21 28 (fun v4 => aI M v3 0 v4 (fun v5 => s_m11_here_24 v5 M))))))
set_option maxRecDepth 100000 in
set_option maxHeartbeats 4000000 in
theorem w_m11_here_24 {V : Ev} {C : Cx} {n0 : Nat} (hC : Cok V C y_m11_here.cls b_m11_here 1 n0 (some .int) y_m11_here.name) (hR : cR C = rm_m11_here)  : ∀ (t0 : Int32) (M : Mm), Sm V C 1 n0 n0 (qI V C) 24 [] [.int t0] M (s_m11_here_24 t0 M) := by
  intro t0 M
  unfold s_m11_here_24
  exact Sm.iret hC d_m11_here_24 rfl (Nat.sub_self _)
set_option maxRecDepth 100000 in
set_option maxHeartbeats 4000000 in
theorem ok_m11_here {l : Launch} {V : Ev} {M M' : Mm} {r : Int32} {r0 : Nat} (h : s_m11_here r0 M = some (r, M')) : Met l y_m11_here (Cond.code y_m11_here b_m11_here 1 (some .int) :: TW) rm_m11_here (va_Pc [rv V.1 r0] (Wd V M)) (QC V (some (.int r)) M' 0) 0 0 (Af V) := by
  refine met_of (fun x : Int32 => some (.int x)) (lv0 := [(0, rv V.1 r0)]) (by decide) (by simp [lg_sl, cat_rv, cat_i, cat_l, cat_f]) (by simp [lv_args, cat_rv, cat_i, cat_l, cat_f]) (fun C hl hR hC => ?_) h
  subst hl
  generalize mN M = n0 at hC ⊢
  unfold s_m11_here
  refine Sm.aload_n hC d_m11_here_0 rfl 0 rfl ?_
  refine Sm.getI hC fl_m11_163 rfl d_m11_here_1 (fun v1 => ?_)
  refine Sm.aload_n hC d_m11_here_4 rfl 0 rfl ?_
  refine Sm.getI hC fl_m11_160 rfl d_m11_here_5 (fun v2 => ?_)
  refine Sm.icmp_ge (tgt := 23) hC d_m11_here_8 (by decide) ?_ ?_
  · refine Sm.iconst (v := -1) hC d_m11_here_23 (by decide) ?_
    refine Sm.sub [] rfl ?_
    exact w_m11_here_24 hC hR (-1 : Int32) M
  · refine Sm.aload_n hC d_m11_here_11 rfl 0 rfl ?_
    refine Sm.getR hC fl_m11_73 rfl d_m11_here_12 (fun v3 => ?_)
    refine Sm.aload_n hC d_m11_here_15 rfl 0 rfl ?_
    refine Sm.getI hC fl_m11_163 rfl d_m11_here_16 (fun v4 => ?_)
    refine Sm.iald hC d_m11_here_19 (fun v5 => ?_)
    refine Sm.goto (tgt := 24) hC d_m11_here_20 (by decide) ?_
    refine Sm.sub [] rfl ?_
    exact w_m11_here_24 hC hR v5 M
