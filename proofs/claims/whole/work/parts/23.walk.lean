/-! NewsWireModel.lay(III)V -/
theorem fl_m11_109 : FL "NewsWireModel" 109 11 50 2 true (.array .int) := ⟨_, _, _, _, rfl, in_c11, ty_c11, nm_c11, by decide, rfl, tw_i 915 (by decide +kernel), rfl, rfl, rfl, rfl⟩
theorem fl_m11_112 : FL "NewsWireModel" 112 11 51 2 true (.array .int) := ⟨_, _, _, _, rfl, in_c11, ty_c11, nm_c11, by decide, rfl, tw_i 916 (by decide +kernel), rfl, rfl, rfl, rfl⟩
abbrev b_m11_lay : ByteArray := prog_13_method_49_code
def y_m11_lay : MethodName := ⟨"NewsWireModel", "lay", "(III)V"⟩
def rm_m11_lay : Room := { frames := 3, cells := 0, slots := 0, locals := 108 }
theorem cw_m11_lay : CW y_m11_lay b_m11_lay 7 none 3 := ⟨tw_i 66 (by decide +kernel), tw_i 1244 (by decide +kernel), by decide, by decide, by decide +kernel⟩
theorem d_m11_lay_0 : decode b_m11_lay 0 = .ok (.iconst 0, 1) := by decide +kernel
theorem d_m11_lay_1 : decode b_m11_lay 1 = .ok (.istore 4, 2) := by decide +kernel
theorem d_m11_lay_3 : decode b_m11_lay 3 = .ok (.iload 4, 2) := by decide +kernel
theorem d_m11_lay_5 : decode b_m11_lay 5 = .ok (.aload_n 0, 1) := by decide +kernel
theorem d_m11_lay_6 : decode b_m11_lay 6 = .ok (.getfield 34, 3) := by decide +kernel
theorem d_m11_lay_9 : decode b_m11_lay 9 = .ok (.iload_n 1, 1) := by decide +kernel
theorem d_m11_lay_10 : decode b_m11_lay 10 = .ok (.iaload, 1) := by decide +kernel
theorem d_m11_lay_11 : decode b_m11_lay 11 = .ok (.if_icmp .ge 36, 3) := by decide +kernel
theorem d_m11_lay_14 : decode b_m11_lay 14 = .ok (.aload_n 0, 1) := by decide +kernel
theorem d_m11_lay_15 : decode b_m11_lay 15 = .ok (.getfield 109, 3) := by decide +kernel
theorem d_m11_lay_18 : decode b_m11_lay 18 = .ok (.iload 4, 2) := by decide +kernel
theorem d_m11_lay_20 : decode b_m11_lay 20 = .ok (.aload_n 0, 1) := by decide +kernel
theorem d_m11_lay_21 : decode b_m11_lay 21 = .ok (.getfield 43, 3) := by decide +kernel
theorem d_m11_lay_24 : decode b_m11_lay 24 = .ok (.bipush 12, 2) := by decide +kernel
theorem d_m11_lay_26 : decode b_m11_lay 26 = .ok (.iload_n 1, 1) := by decide +kernel
theorem d_m11_lay_27 : decode b_m11_lay 27 = .ok (.imul, 1) := by decide +kernel
theorem d_m11_lay_28 : decode b_m11_lay 28 = .ok (.iload 4, 2) := by decide +kernel
theorem d_m11_lay_30 : decode b_m11_lay 30 = .ok (.iadd, 1) := by decide +kernel
theorem d_m11_lay_31 : decode b_m11_lay 31 = .ok (.iaload, 1) := by decide +kernel
theorem d_m11_lay_32 : decode b_m11_lay 32 = .ok (.iastore, 1) := by decide +kernel
theorem d_m11_lay_33 : decode b_m11_lay 33 = .ok (.aload_n 0, 1) := by decide +kernel
theorem d_m11_lay_34 : decode b_m11_lay 34 = .ok (.getfield 112, 3) := by decide +kernel
theorem d_m11_lay_37 : decode b_m11_lay 37 = .ok (.iload 4, 2) := by decide +kernel
theorem d_m11_lay_39 : decode b_m11_lay 39 = .ok (.iload_n 1, 1) := by decide +kernel
theorem d_m11_lay_40 : decode b_m11_lay 40 = .ok (.iastore, 1) := by decide +kernel
theorem d_m11_lay_41 : decode b_m11_lay 41 = .ok (.iinc 4 1, 3) := by decide +kernel
theorem d_m11_lay_44 : decode b_m11_lay 44 = .ok (.goto (-41), 3) := by decide +kernel
theorem d_m11_lay_47 : decode b_m11_lay 47 = .ok (.iload_n 1, 1) := by decide +kernel
theorem d_m11_lay_48 : decode b_m11_lay 48 = .ok (.iconst 1, 1) := by decide +kernel
theorem d_m11_lay_49 : decode b_m11_lay 49 = .ok (.iadd, 1) := by decide +kernel
theorem d_m11_lay_50 : decode b_m11_lay 50 = .ok (.istore 4, 2) := by decide +kernel
theorem d_m11_lay_52 : decode b_m11_lay 52 = .ok (.iload 4, 2) := by decide +kernel
theorem d_m11_lay_54 : decode b_m11_lay 54 = .ok (.aload_n 0, 1) := by decide +kernel
theorem d_m11_lay_55 : decode b_m11_lay 55 = .ok (.getfield 143, 3) := by decide +kernel
theorem d_m11_lay_58 : decode b_m11_lay 58 = .ok (.if_icmp .ge 111, 3) := by decide +kernel
theorem d_m11_lay_61 : decode b_m11_lay 61 = .ok (.aload_n 0, 1) := by decide +kernel
theorem d_m11_lay_62 : decode b_m11_lay 62 = .ok (.getfield 22, 3) := by decide +kernel
theorem d_m11_lay_65 : decode b_m11_lay 65 = .ok (.iload 4, 2) := by decide +kernel
theorem d_m11_lay_67 : decode b_m11_lay 67 = .ok (.iaload, 1) := by decide +kernel
theorem d_m11_lay_68 : decode b_m11_lay 68 = .ok (.iconst 3, 1) := by decide +kernel
theorem d_m11_lay_69 : decode b_m11_lay 69 = .ok (.if_icmp .ne 94, 3) := by decide +kernel
theorem d_m11_lay_72 : decode b_m11_lay 72 = .ok (.aload_n 0, 1) := by decide +kernel
theorem d_m11_lay_73 : decode b_m11_lay 73 = .ok (.getfield 37, 3) := by decide +kernel
theorem d_m11_lay_76 : decode b_m11_lay 76 = .ok (.iload 4, 2) := by decide +kernel
theorem d_m11_lay_78 : decode b_m11_lay 78 = .ok (.iaload, 1) := by decide +kernel
theorem d_m11_lay_79 : decode b_m11_lay 79 = .ok (.iload_n 1, 1) := by decide +kernel
theorem d_m11_lay_80 : decode b_m11_lay 80 = .ok (.if_icmp .ne 83, 3) := by decide +kernel
theorem d_m11_lay_83 : decode b_m11_lay 83 = .ok (.aload_n 0, 1) := by decide +kernel
theorem d_m11_lay_84 : decode b_m11_lay 84 = .ok (.iload 4, 2) := by decide +kernel
theorem d_m11_lay_86 : decode b_m11_lay 86 = .ok (.iload_n 2, 1) := by decide +kernel
theorem d_m11_lay_87 : decode b_m11_lay 87 = .ok (.iload_n 3, 1) := by decide +kernel
theorem d_m11_lay_88 : decode b_m11_lay 88 = .ok (.invokevirtual 269, 3) := by decide +kernel
theorem d_m11_lay_91 : decode b_m11_lay 91 = .ok (.ifCond .ne 6, 3) := by decide +kernel
theorem d_m11_lay_94 : decode b_m11_lay 94 = .ok (.goto 69, 3) := by decide +kernel
theorem d_m11_lay_97 : decode b_m11_lay 97 = .ok (.iconst 0, 1) := by decide +kernel
theorem d_m11_lay_98 : decode b_m11_lay 98 = .ok (.istore 5, 2) := by decide +kernel
theorem d_m11_lay_100 : decode b_m11_lay 100 = .ok (.iload 5, 2) := by decide +kernel
theorem d_m11_lay_102 : decode b_m11_lay 102 = .ok (.aload_n 0, 1) := by decide +kernel
theorem d_m11_lay_103 : decode b_m11_lay 103 = .ok (.getfield 34, 3) := by decide +kernel
theorem d_m11_lay_106 : decode b_m11_lay 106 = .ok (.iload 4, 2) := by decide +kernel
theorem d_m11_lay_108 : decode b_m11_lay 108 = .ok (.iaload, 1) := by decide +kernel
theorem d_m11_lay_109 : decode b_m11_lay 109 = .ok (.if_icmp .ge 54, 3) := by decide +kernel
theorem d_m11_lay_112 : decode b_m11_lay 112 = .ok (.aload_n 0, 1) := by decide +kernel
theorem d_m11_lay_113 : decode b_m11_lay 113 = .ok (.getfield 109, 3) := by decide +kernel
theorem d_m11_lay_116 : decode b_m11_lay 116 = .ok (.aload_n 0, 1) := by decide +kernel
theorem d_m11_lay_117 : decode b_m11_lay 117 = .ok (.getfield 40, 3) := by decide +kernel
theorem d_m11_lay_120 : decode b_m11_lay 120 = .ok (.iload 4, 2) := by decide +kernel
theorem d_m11_lay_122 : decode b_m11_lay 122 = .ok (.iaload, 1) := by decide +kernel
theorem d_m11_lay_123 : decode b_m11_lay 123 = .ok (.iload 5, 2) := by decide +kernel
theorem d_m11_lay_125 : decode b_m11_lay 125 = .ok (.iadd, 1) := by decide +kernel
theorem d_m11_lay_126 : decode b_m11_lay 126 = .ok (.aload_n 0, 1) := by decide +kernel
theorem d_m11_lay_127 : decode b_m11_lay 127 = .ok (.getfield 43, 3) := by decide +kernel
theorem d_m11_lay_130 : decode b_m11_lay 130 = .ok (.bipush 12, 2) := by decide +kernel
theorem d_m11_lay_132 : decode b_m11_lay 132 = .ok (.iload 4, 2) := by decide +kernel
theorem d_m11_lay_134 : decode b_m11_lay 134 = .ok (.imul, 1) := by decide +kernel
theorem d_m11_lay_135 : decode b_m11_lay 135 = .ok (.iload 5, 2) := by decide +kernel
theorem d_m11_lay_137 : decode b_m11_lay 137 = .ok (.iadd, 1) := by decide +kernel
theorem d_m11_lay_138 : decode b_m11_lay 138 = .ok (.iaload, 1) := by decide +kernel
theorem d_m11_lay_139 : decode b_m11_lay 139 = .ok (.iastore, 1) := by decide +kernel
theorem d_m11_lay_140 : decode b_m11_lay 140 = .ok (.aload_n 0, 1) := by decide +kernel
theorem d_m11_lay_141 : decode b_m11_lay 141 = .ok (.getfield 112, 3) := by decide +kernel
theorem d_m11_lay_144 : decode b_m11_lay 144 = .ok (.aload_n 0, 1) := by decide +kernel
theorem d_m11_lay_145 : decode b_m11_lay 145 = .ok (.getfield 40, 3) := by decide +kernel
theorem d_m11_lay_148 : decode b_m11_lay 148 = .ok (.iload 4, 2) := by decide +kernel
theorem d_m11_lay_150 : decode b_m11_lay 150 = .ok (.iaload, 1) := by decide +kernel
theorem d_m11_lay_151 : decode b_m11_lay 151 = .ok (.iload 5, 2) := by decide +kernel
theorem d_m11_lay_153 : decode b_m11_lay 153 = .ok (.iadd, 1) := by decide +kernel
theorem d_m11_lay_154 : decode b_m11_lay 154 = .ok (.iload 4, 2) := by decide +kernel
theorem d_m11_lay_156 : decode b_m11_lay 156 = .ok (.iastore, 1) := by decide +kernel
theorem d_m11_lay_157 : decode b_m11_lay 157 = .ok (.iinc 5 1, 3) := by decide +kernel
theorem d_m11_lay_160 : decode b_m11_lay 160 = .ok (.goto (-60), 3) := by decide +kernel
theorem d_m11_lay_163 : decode b_m11_lay 163 = .ok (.iinc 4 1, 3) := by decide +kernel
theorem d_m11_lay_166 : decode b_m11_lay 166 = .ok (.goto (-114), 3) := by decide +kernel
theorem d_m11_lay_169 : decode b_m11_lay 169 = .ok (.iconst 0, 1) := by decide +kernel
theorem d_m11_lay_170 : decode b_m11_lay 170 = .ok (.istore 4, 2) := by decide +kernel
theorem d_m11_lay_172 : decode b_m11_lay 172 = .ok (.iload 4, 2) := by decide +kernel
theorem d_m11_lay_174 : decode b_m11_lay 174 = .ok (.aload_n 0, 1) := by decide +kernel
theorem d_m11_lay_175 : decode b_m11_lay 175 = .ok (.getfield 34, 3) := by decide +kernel
theorem d_m11_lay_178 : decode b_m11_lay 178 = .ok (.iload_n 1, 1) := by decide +kernel
theorem d_m11_lay_179 : decode b_m11_lay 179 = .ok (.iaload, 1) := by decide +kernel
theorem d_m11_lay_180 : decode b_m11_lay 180 = .ok (.if_icmp .gt 146, 3) := by decide +kernel
theorem d_m11_lay_183 : decode b_m11_lay 183 = .ok (.iload_n 1, 1) := by decide +kernel
theorem d_m11_lay_184 : decode b_m11_lay 184 = .ok (.iconst 1, 1) := by decide +kernel
theorem d_m11_lay_185 : decode b_m11_lay 185 = .ok (.iadd, 1) := by decide +kernel
theorem d_m11_lay_186 : decode b_m11_lay 186 = .ok (.istore 5, 2) := by decide +kernel
theorem d_m11_lay_188 : decode b_m11_lay 188 = .ok (.iload 5, 2) := by decide +kernel
theorem d_m11_lay_190 : decode b_m11_lay 190 = .ok (.aload_n 0, 1) := by decide +kernel
theorem d_m11_lay_191 : decode b_m11_lay 191 = .ok (.getfield 143, 3) := by decide +kernel
theorem d_m11_lay_194 : decode b_m11_lay 194 = .ok (.if_icmp .ge 97, 3) := by decide +kernel
theorem d_m11_lay_197 : decode b_m11_lay 197 = .ok (.aload_n 0, 1) := by decide +kernel
theorem d_m11_lay_198 : decode b_m11_lay 198 = .ok (.getfield 22, 3) := by decide +kernel
theorem d_m11_lay_201 : decode b_m11_lay 201 = .ok (.iload 5, 2) := by decide +kernel
theorem d_m11_lay_203 : decode b_m11_lay 203 = .ok (.iaload, 1) := by decide +kernel
theorem d_m11_lay_204 : decode b_m11_lay 204 = .ok (.iconst 2, 1) := by decide +kernel
theorem d_m11_lay_205 : decode b_m11_lay 205 = .ok (.if_icmp .ne 80, 3) := by decide +kernel
theorem d_m11_lay_208 : decode b_m11_lay 208 = .ok (.aload_n 0, 1) := by decide +kernel
theorem d_m11_lay_209 : decode b_m11_lay 209 = .ok (.getfield 37, 3) := by decide +kernel
theorem d_m11_lay_212 : decode b_m11_lay 212 = .ok (.iload 5, 2) := by decide +kernel
theorem d_m11_lay_214 : decode b_m11_lay 214 = .ok (.iaload, 1) := by decide +kernel
theorem d_m11_lay_215 : decode b_m11_lay 215 = .ok (.iload_n 1, 1) := by decide +kernel
theorem d_m11_lay_216 : decode b_m11_lay 216 = .ok (.if_icmp .ne 69, 3) := by decide +kernel
theorem d_m11_lay_219 : decode b_m11_lay 219 = .ok (.aload_n 0, 1) := by decide +kernel
theorem d_m11_lay_220 : decode b_m11_lay 220 = .ok (.getfield 40, 3) := by decide +kernel
theorem d_m11_lay_223 : decode b_m11_lay 223 = .ok (.iload 5, 2) := by decide +kernel
theorem d_m11_lay_225 : decode b_m11_lay 225 = .ok (.iaload, 1) := by decide +kernel
theorem d_m11_lay_226 : decode b_m11_lay 226 = .ok (.iload 4, 2) := by decide +kernel
theorem d_m11_lay_228 : decode b_m11_lay 228 = .ok (.if_icmp .ne 57, 3) := by decide +kernel
theorem d_m11_lay_231 : decode b_m11_lay 231 = .ok (.aload_n 0, 1) := by decide +kernel
theorem d_m11_lay_232 : decode b_m11_lay 232 = .ok (.iload 5, 2) := by decide +kernel
theorem d_m11_lay_234 : decode b_m11_lay 234 = .ok (.iload_n 2, 1) := by decide +kernel
theorem d_m11_lay_235 : decode b_m11_lay 235 = .ok (.iload_n 3, 1) := by decide +kernel
theorem d_m11_lay_236 : decode b_m11_lay 236 = .ok (.invokevirtual 269, 3) := by decide +kernel
theorem d_m11_lay_239 : decode b_m11_lay 239 = .ok (.ifCond .ne 6, 3) := by decide +kernel
theorem d_m11_lay_242 : decode b_m11_lay 242 = .ok (.goto 43, 3) := by decide +kernel
theorem d_m11_lay_245 : decode b_m11_lay 245 = .ok (.iconst 0, 1) := by decide +kernel
theorem d_m11_lay_246 : decode b_m11_lay 246 = .ok (.istore 6, 2) := by decide +kernel
theorem d_m11_lay_248 : decode b_m11_lay 248 = .ok (.iload 6, 2) := by decide +kernel
theorem d_m11_lay_250 : decode b_m11_lay 250 = .ok (.aload_n 0, 1) := by decide +kernel
theorem d_m11_lay_251 : decode b_m11_lay 251 = .ok (.getfield 34, 3) := by decide +kernel
theorem d_m11_lay_254 : decode b_m11_lay 254 = .ok (.iload 5, 2) := by decide +kernel
theorem d_m11_lay_256 : decode b_m11_lay 256 = .ok (.iaload, 1) := by decide +kernel
theorem d_m11_lay_257 : decode b_m11_lay 257 = .ok (.if_icmp .ge 28, 3) := by decide +kernel
theorem d_m11_lay_260 : decode b_m11_lay 260 = .ok (.aload_n 0, 1) := by decide +kernel
theorem d_m11_lay_261 : decode b_m11_lay 261 = .ok (.aload_n 0, 1) := by decide +kernel
theorem d_m11_lay_262 : decode b_m11_lay 262 = .ok (.getfield 43, 3) := by decide +kernel
theorem d_m11_lay_265 : decode b_m11_lay 265 = .ok (.bipush 12, 2) := by decide +kernel
theorem d_m11_lay_267 : decode b_m11_lay 267 = .ok (.iload 5, 2) := by decide +kernel
theorem d_m11_lay_269 : decode b_m11_lay 269 = .ok (.imul, 1) := by decide +kernel
theorem d_m11_lay_270 : decode b_m11_lay 270 = .ok (.iload 6, 2) := by decide +kernel
theorem d_m11_lay_272 : decode b_m11_lay 272 = .ok (.iadd, 1) := by decide +kernel
theorem d_m11_lay_273 : decode b_m11_lay 273 = .ok (.iaload, 1) := by decide +kernel
theorem d_m11_lay_274 : decode b_m11_lay 274 = .ok (.iload 5, 2) := by decide +kernel
theorem d_m11_lay_276 : decode b_m11_lay 276 = .ok (.invokevirtual 272, 3) := by decide +kernel
theorem d_m11_lay_279 : decode b_m11_lay 279 = .ok (.iinc 6 1, 3) := by decide +kernel
theorem d_m11_lay_282 : decode b_m11_lay 282 = .ok (.goto (-34), 3) := by decide +kernel
theorem d_m11_lay_285 : decode b_m11_lay 285 = .ok (.iinc 5 1, 3) := by decide +kernel
theorem d_m11_lay_288 : decode b_m11_lay 288 = .ok (.goto (-100), 3) := by decide +kernel
theorem d_m11_lay_291 : decode b_m11_lay 291 = .ok (.iload 4, 2) := by decide +kernel
theorem d_m11_lay_293 : decode b_m11_lay 293 = .ok (.aload_n 0, 1) := by decide +kernel
theorem d_m11_lay_294 : decode b_m11_lay 294 = .ok (.getfield 34, 3) := by decide +kernel
theorem d_m11_lay_297 : decode b_m11_lay 297 = .ok (.iload_n 1, 1) := by decide +kernel
theorem d_m11_lay_298 : decode b_m11_lay 298 = .ok (.iaload, 1) := by decide +kernel
theorem d_m11_lay_299 : decode b_m11_lay 299 = .ok (.if_icmp .ge 21, 3) := by decide +kernel
theorem d_m11_lay_302 : decode b_m11_lay 302 = .ok (.aload_n 0, 1) := by decide +kernel
theorem d_m11_lay_303 : decode b_m11_lay 303 = .ok (.aload_n 0, 1) := by decide +kernel
theorem d_m11_lay_304 : decode b_m11_lay 304 = .ok (.getfield 109, 3) := by decide +kernel
theorem d_m11_lay_307 : decode b_m11_lay 307 = .ok (.iload 4, 2) := by decide +kernel
theorem d_m11_lay_309 : decode b_m11_lay 309 = .ok (.iaload, 1) := by decide +kernel
theorem d_m11_lay_310 : decode b_m11_lay 310 = .ok (.aload_n 0, 1) := by decide +kernel
theorem d_m11_lay_311 : decode b_m11_lay 311 = .ok (.getfield 112, 3) := by decide +kernel
theorem d_m11_lay_314 : decode b_m11_lay 314 = .ok (.iload 4, 2) := by decide +kernel
theorem d_m11_lay_316 : decode b_m11_lay 316 = .ok (.iaload, 1) := by decide +kernel
theorem d_m11_lay_317 : decode b_m11_lay 317 = .ok (.invokevirtual 272, 3) := by decide +kernel
theorem d_m11_lay_320 : decode b_m11_lay 320 = .ok (.iinc 4 1, 3) := by decide +kernel
theorem d_m11_lay_323 : decode b_m11_lay 323 = .ok (.goto (-151), 3) := by decide +kernel
theorem d_m11_lay_326 : decode b_m11_lay 326 = .ok (.return_, 1) := by decide +kernel
def s_m11_lay_320 (k172 : Nat → Int32 → Int32 → Int32 → Int32 → Mm → Option (Unit × Mm)) (r0 : Nat) (x1 : Int32) (x2 : Int32) (x3 : Int32) (x4 : Int32) (M : Mm) : Option (Unit × Mm) := k172 r0 x1 x2 x3 (x4 + 1) M
def s_m11_lay_285 (k172 : Nat → Int32 → Int32 → Int32 → Int32 → Mm → Option (Unit × Mm)) (k188 : Nat → Int32 → Int32 → Int32 → Int32 → Int32 → Mm → Option (Unit × Mm)) (r0 : Nat) (x1 : Int32) (x2 : Int32) (x3 : Int32) (x4 : Int32) (x5 : Int32) (M : Mm) : Option (Unit × Mm) := k188 r0 x1 x2 x3 x4 (x5 + 1) M
def s_m11_lay_248 (k172 : Nat → Int32 → Int32 → Int32 → Int32 → Mm → Option (Unit × Mm)) (k188 : Nat → Int32 → Int32 → Int32 → Int32 → Int32 → Mm → Option (Unit × Mm)) : Nat → Nat → Int32 → Int32 → Int32 → Int32 → Int32 → Int32 → Mm → Option (Unit × Mm)
  | 0, _, _, _, _, _, _, _, _ => none
  | n + 1, r0, x1, x2, x3, x4, x5, x6, M => gR M r0 21 11 (fun v1 => aI M v1 0 x5 (fun v2 => (if v2 ≤ x6 then s_m11_lay_285 k172 k188 r0 x1 x2 x3 x4 x5 M else gR M r0 21 14 (fun v3 => aI M v3 0 (((12 : Int32) * x5) + x6) (fun v4 => cl (has M r0 21) (s_m11_put r0 v4 x5 M) (fun _ M5 => (s_m11_lay_248 k172 k188 n) r0 x1 x2 x3 x4 x5 (x6 + 1) M5))))))
def s_m11_lay_188 (k172 : Nat → Int32 → Int32 → Int32 → Int32 → Mm → Option (Unit × Mm)) : Nat → Nat → Int32 → Int32 → Int32 → Int32 → Int32 → Mm → Option (Unit × Mm)
  | 0, _, _, _, _, _, _, _ => none
  | n + 1, r0, x1, x2, x3, x4, x5, M => gI M r0 21 6 (fun v1 => (if v1 ≤ x5 then gR M r0 21 11 (fun v2 => aI M v2 0 x1 (fun v3 => (if v3 ≤ x4 then s_m11_lay_320 k172 r0 x1 x2 x3 x4 M else gR M r0 21 50 (fun v4 => aI M v4 0 x4 (fun v5 => gR M r0 21 51 (fun v6 => aI M v6 0 x4 (fun v7 => cl (has M r0 21) (s_m11_put r0 v5 v7 M) (fun _ M8 => s_m11_lay_320 k172 r0 x1 x2 x3 x4 M8)))))))) else gR M r0 21 7 (fun v9 => aI M v9 0 x5 (fun v10 => (if ¬ v10 = (2 : Int32) then s_m11_lay_285 k172 (s_m11_lay_188 k172 n) r0 x1 x2 x3 x4 x5 M else gR M r0 21 12 (fun v11 => aI M v11 0 x5 (fun v12 => (if ¬ v12 = x1 then s_m11_lay_285 k172 (s_m11_lay_188 k172 n) r0 x1 x2 x3 x4 x5 M else gR M r0 21 13 (fun v13 => aI M v13 0 x5 (fun v14 => (if ¬ v14 = x4 then s_m11_lay_285 k172 (s_m11_lay_188 k172 n) r0 x1 x2 x3 x4 x5 M else cl (has M r0 21) (s_m11_isThere r0 x5 x2 x3 M) (fun v15 M16 => (if ¬ v15 = 0 then s_m11_lay_248 k172 (s_m11_lay_188 k172 n) FU r0 x1 x2 x3 x4 x5 (0 : Int32) M16 else s_m11_lay_285 k172 (s_m11_lay_188 k172 n) r0 x1 x2 x3 x4 x5 M16)))))))))))))
def s_m11_lay_172  : Nat → Nat → Int32 → Int32 → Int32 → Int32 → Mm → Option (Unit × Mm)
  | 0, _, _, _, _, _, _ => none
  | n + 1, r0, x1, x2, x3, x4, M => gR M r0 21 11 (fun v1 => aI M v1 0 x1 (fun v2 => (if v2 < x4 then some ((), M) else s_m11_lay_188 (s_m11_lay_172 n) FU r0 x1 x2 x3 x4 (x1 + (1 : Int32)) M)))
def s_m11_lay_163 (k52 : Nat → Int32 → Int32 → Int32 → Int32 → Mm → Option (Unit × Mm)) (r0 : Nat) (x1 : Int32) (x2 : Int32) (x3 : Int32) (x4 : Int32) (M : Mm) : Option (Unit × Mm) := k52 r0 x1 x2 x3 (x4 + 1) M
def s_m11_lay_100 (k52 : Nat → Int32 → Int32 → Int32 → Int32 → Mm → Option (Unit × Mm)) : Nat → Nat → Int32 → Int32 → Int32 → Int32 → Int32 → Mm → Option (Unit × Mm)
  | 0, _, _, _, _, _, _, _ => none
  | n + 1, r0, x1, x2, x3, x4, x5, M => gR M r0 21 11 (fun v1 => aI M v1 0 x4 (fun v2 => (if v2 ≤ x5 then s_m11_lay_163 k52 r0 x1 x2 x3 x4 M else gR M r0 21 50 (fun v3 => gR M r0 21 13 (fun v4 => aI M v4 0 x4 (fun v5 => gR M r0 21 14 (fun v6 => aI M v6 0 (((12 : Int32) * x4) + x5) (fun v7 => sI M v3 0 (v5 + x5) v7 (fun M8 => gR M8 r0 21 51 (fun v9 => gR M8 r0 21 13 (fun v10 => aI M8 v10 0 x4 (fun v11 => sI M8 v9 0 (v11 + x5) x4 (fun M12 => (s_m11_lay_100 k52 n) r0 x1 x2 x3 x4 (x5 + 1) M12)))))))))))))
def s_m11_lay_52  : Nat → Nat → Int32 → Int32 → Int32 → Int32 → Mm → Option (Unit × Mm)
  | 0, _, _, _, _, _, _ => none
  | n + 1, r0, x1, x2, x3, x4, M => gI M r0 21 6 (fun v1 => (if v1 ≤ x4 then s_m11_lay_172 FU r0 x1 x2 x3 (0 : Int32) M else gR M r0 21 7 (fun v2 => aI M v2 0 x4 (fun v3 => (if ¬ v3 = (3 : Int32) then s_m11_lay_163 (s_m11_lay_52 n) r0 x1 x2 x3 x4 M else gR M r0 21 12 (fun v4 => aI M v4 0 x4 (fun v5 => (if ¬ v5 = x1 then s_m11_lay_163 (s_m11_lay_52 n) r0 x1 x2 x3 x4 M else cl (has M r0 21) (s_m11_isThere r0 x4 x2 x3 M) (fun v6 M7 => (if ¬ v6 = 0 then s_m11_lay_100 (s_m11_lay_52 n) FU r0 x1 x2 x3 x4 (0 : Int32) M7 else s_m11_lay_163 (s_m11_lay_52 n) r0 x1 x2 x3 x4 M7))))))))))
def s_m11_lay_3  : Nat → Nat → Int32 → Int32 → Int32 → Int32 → Mm → Option (Unit × Mm)
  | 0, _, _, _, _, _, _ => none
  | n + 1, r0, x1, x2, x3, x4, M => gR M r0 21 11 (fun v1 => aI M v1 0 x1 (fun v2 => (if v2 ≤ x4 then s_m11_lay_52 FU r0 x1 x2 x3 (x1 + (1 : Int32)) M else gR M r0 21 50 (fun v3 => gR M r0 21 14 (fun v4 => aI M v4 0 (((12 : Int32) * x1) + x4) (fun v5 => sI M v3 0 x4 v5 (fun M6 => gR M6 r0 21 51 (fun v7 => sI M6 v7 0 x4 x1 (fun M8 => (s_m11_lay_3 n) r0 x1 x2 x3 (x4 + 1) M8)))))))))
def s_m11_lay (r0 : Nat) (a1 : Int32) (a2 : Int32) (a3 : Int32) (M : Mm) : Option (Unit × Mm) := s_m11_lay_3 FU r0 a1 a2 a3 (0 : Int32) M
set_option maxRecDepth 100000 in
set_option maxHeartbeats 4000000 in
theorem w_m11_lay_320 {V : Ev} {C : Cx} {n0 : Nat} (hC : Cok V C y_m11_lay.cls b_m11_lay 7 n0 none y_m11_lay.name) (hR : cR C = rm_m11_lay) (k172 : Nat → Int32 → Int32 → Int32 → Int32 → Mm → Option (Unit × Mm)) (hk172 : ∀ (r0 : Nat) (x1 : Int32) (x2 : Int32) (x3 : Int32) (x4 : Int32) (M : Mm), Sm V C 7 n0 n0 (qV V C) 172 [(0, rv V.1 r0), (1, .int x1), (2, .int x2), (3, .int x3), (4, .int x4)] [] M (k172 r0 x1 x2 x3 x4 M)) : ∀ (r0 : Nat) (x1 : Int32) (x2 : Int32) (x3 : Int32) (x4 : Int32) (M : Mm), Sm V C 7 n0 n0 (qV V C) 320 [(0, rv V.1 r0), (1, .int x1), (2, .int x2), (3, .int x3), (4, .int x4)] [] M (s_m11_lay_320 k172 r0 x1 x2 x3 x4 M) := by
  intro r0 x1 x2 x3 x4 M
  unfold s_m11_lay_320
  refine Sm.iinc (v := x4 + 1) (lv' := [(4, .int (x4 + 1)), (0, rv V.1 r0), (1, .int x1), (2, .int x2), (3, .int x3)]) hC d_m11_lay_320 4 rfl rfl (by decide) rfl ?_
  refine Sm.goto (tgt := 172) hC d_m11_lay_323 (by decide) ?_
  refine Sm.sub [1, 2, 3, 4, 0] rfl ?_
  exact hk172 r0 x1 x2 x3 (x4 + 1) M
set_option maxRecDepth 100000 in
set_option maxHeartbeats 4000000 in
theorem w_m11_lay_285 {V : Ev} {C : Cx} {n0 : Nat} (hC : Cok V C y_m11_lay.cls b_m11_lay 7 n0 none y_m11_lay.name) (hR : cR C = rm_m11_lay) (k172 : Nat → Int32 → Int32 → Int32 → Int32 → Mm → Option (Unit × Mm)) (k188 : Nat → Int32 → Int32 → Int32 → Int32 → Int32 → Mm → Option (Unit × Mm)) (hk172 : ∀ (r0 : Nat) (x1 : Int32) (x2 : Int32) (x3 : Int32) (x4 : Int32) (M : Mm), Sm V C 7 n0 n0 (qV V C) 172 [(0, rv V.1 r0), (1, .int x1), (2, .int x2), (3, .int x3), (4, .int x4)] [] M (k172 r0 x1 x2 x3 x4 M)) (hk188 : ∀ (r0 : Nat) (x1 : Int32) (x2 : Int32) (x3 : Int32) (x4 : Int32) (x5 : Int32) (M : Mm), Sm V C 7 n0 n0 (qV V C) 188 [(0, rv V.1 r0), (1, .int x1), (2, .int x2), (3, .int x3), (4, .int x4), (5, .int x5)] [] M (k188 r0 x1 x2 x3 x4 x5 M)) : ∀ (r0 : Nat) (x1 : Int32) (x2 : Int32) (x3 : Int32) (x4 : Int32) (x5 : Int32) (M : Mm), Sm V C 7 n0 n0 (qV V C) 285 [(0, rv V.1 r0), (1, .int x1), (2, .int x2), (3, .int x3), (4, .int x4), (5, .int x5)] [] M (s_m11_lay_285 k172 k188 r0 x1 x2 x3 x4 x5 M) := by
  intro r0 x1 x2 x3 x4 x5 M
  unfold s_m11_lay_285
  refine Sm.iinc (v := x5 + 1) (lv' := [(5, .int (x5 + 1)), (0, rv V.1 r0), (1, .int x1), (2, .int x2), (3, .int x3), (4, .int x4)]) hC d_m11_lay_285 5 rfl rfl (by decide) rfl ?_
  refine Sm.goto (tgt := 188) hC d_m11_lay_288 (by decide) ?_
  refine Sm.sub [1, 2, 3, 4, 5, 0] rfl ?_
  exact hk188 r0 x1 x2 x3 x4 (x5 + 1) M
set_option maxRecDepth 100000 in
set_option maxHeartbeats 4000000 in
theorem w_m11_lay_248 {V : Ev} {C : Cx} {n0 : Nat} (hC : Cok V C y_m11_lay.cls b_m11_lay 7 n0 none y_m11_lay.name) (hR : cR C = rm_m11_lay) (k172 : Nat → Int32 → Int32 → Int32 → Int32 → Mm → Option (Unit × Mm)) (k188 : Nat → Int32 → Int32 → Int32 → Int32 → Int32 → Mm → Option (Unit × Mm)) (hk172 : ∀ (r0 : Nat) (x1 : Int32) (x2 : Int32) (x3 : Int32) (x4 : Int32) (M : Mm), Sm V C 7 n0 n0 (qV V C) 172 [(0, rv V.1 r0), (1, .int x1), (2, .int x2), (3, .int x3), (4, .int x4)] [] M (k172 r0 x1 x2 x3 x4 M)) (hk188 : ∀ (r0 : Nat) (x1 : Int32) (x2 : Int32) (x3 : Int32) (x4 : Int32) (x5 : Int32) (M : Mm), Sm V C 7 n0 n0 (qV V C) 188 [(0, rv V.1 r0), (1, .int x1), (2, .int x2), (3, .int x3), (4, .int x4), (5, .int x5)] [] M (k188 r0 x1 x2 x3 x4 x5 M)) : ∀ (n : Nat) (r0 : Nat) (x1 : Int32) (x2 : Int32) (x3 : Int32) (x4 : Int32) (x5 : Int32) (x6 : Int32) (M : Mm), Sm V C 7 n0 n0 (qV V C) 248 [(0, rv V.1 r0), (1, .int x1), (2, .int x2), (3, .int x3), (4, .int x4), (5, .int x5), (6, .int x6)] [] M (s_m11_lay_248 k172 k188 n r0 x1 x2 x3 x4 x5 x6 M) := by
  intro n
  induction n with
  | zero => exact fun r0 x1 x2 x3 x4 x5 x6 M => Sm.none_
  | succ n ih =>
    intro r0 x1 x2 x3 x4 x5 x6 M
    unfold s_m11_lay_248
    refine Sm.iload hC d_m11_lay_248 6 rfl ?_
    refine Sm.aload_n hC d_m11_lay_250 rfl 0 rfl ?_
    refine Sm.getR hC fl_m11_34 rfl d_m11_lay_251 (fun v1 => ?_)
    refine Sm.iload hC d_m11_lay_254 5 rfl ?_
    refine Sm.iald hC d_m11_lay_256 (fun v2 => ?_)
    refine Sm.icmp_ge (tgt := 285) hC d_m11_lay_257 (by decide) ?_ ?_
    · refine Sm.sub [0, 1, 2, 3, 4, 5] rfl ?_
      exact w_m11_lay_285 hC hR k172 k188 hk172 hk188 r0 x1 x2 x3 x4 x5 M
    · refine Sm.aload_n hC d_m11_lay_260 rfl 0 rfl ?_
      refine Sm.aload_n hC d_m11_lay_261 rfl 0 rfl ?_
      refine Sm.getR hC fl_m11_43 rfl d_m11_lay_262 (fun v3 => ?_)
      refine Sm.bipush (v := 12) hC d_m11_lay_265 (by decide) ?_
      refine Sm.iload hC d_m11_lay_267 5 rfl ?_
      refine Sm.imul hC d_m11_lay_269 ?_
      refine Sm.iload hC d_m11_lay_270 6 rfl ?_
      refine Sm.iadd hC d_m11_lay_272 ?_
      refine Sm.iald hC d_m11_lay_273 (fun v4 => ?_)
      refine Sm.iload hC d_m11_lay_274 5 rfl ?_
      refine Sm.callVv 11 (As := [.int v4, .int x5]) (st := []) hC hR cw_m11_put (tw_i 1245 (by decide +kernel)) (tw_i 1247 (by decide +kernel)) (tw_i 52 (by decide +kernel)) ⟨_, rfl, rfl⟩ (fun r9 M9 h9 => ok_m11_put h9) rfl rfl (RW.of ⟨rfl, rfl, by decide, by decide⟩) (by simp) d_m11_lay_276 (fun _ M5 => ?_)
      refine Sm.iinc (v := x6 + 1) (lv' := [(6, .int (x6 + 1)), (0, rv V.1 r0), (1, .int x1), (2, .int x2), (3, .int x3), (4, .int x4), (5, .int x5)]) hC d_m11_lay_279 6 rfl rfl (by decide) rfl ?_
      refine Sm.goto (tgt := 248) hC d_m11_lay_282 (by decide) ?_
      refine Sm.sub [1, 2, 3, 4, 5, 6, 0] rfl ?_
      exact ih r0 x1 x2 x3 x4 x5 (x6 + 1) M5
set_option maxRecDepth 100000 in
set_option maxHeartbeats 4000000 in
theorem w_m11_lay_188 {V : Ev} {C : Cx} {n0 : Nat} (hC : Cok V C y_m11_lay.cls b_m11_lay 7 n0 none y_m11_lay.name) (hR : cR C = rm_m11_lay) (k172 : Nat → Int32 → Int32 → Int32 → Int32 → Mm → Option (Unit × Mm)) (hk172 : ∀ (r0 : Nat) (x1 : Int32) (x2 : Int32) (x3 : Int32) (x4 : Int32) (M : Mm), Sm V C 7 n0 n0 (qV V C) 172 [(0, rv V.1 r0), (1, .int x1), (2, .int x2), (3, .int x3), (4, .int x4)] [] M (k172 r0 x1 x2 x3 x4 M)) : ∀ (n : Nat) (r0 : Nat) (x1 : Int32) (x2 : Int32) (x3 : Int32) (x4 : Int32) (x5 : Int32) (M : Mm), Sm V C 7 n0 n0 (qV V C) 188 [(0, rv V.1 r0), (1, .int x1), (2, .int x2), (3, .int x3), (4, .int x4), (5, .int x5)] [] M (s_m11_lay_188 k172 n r0 x1 x2 x3 x4 x5 M) := by
  intro n
  induction n with
  | zero => exact fun r0 x1 x2 x3 x4 x5 M => Sm.none_
  | succ n ih =>
    intro r0 x1 x2 x3 x4 x5 M
    unfold s_m11_lay_188
    refine Sm.iload hC d_m11_lay_188 5 rfl ?_
    refine Sm.aload_n hC d_m11_lay_190 rfl 0 rfl ?_
    refine Sm.getI hC fl_m11_143 rfl d_m11_lay_191 (fun v1 => ?_)
    refine Sm.icmp_ge (tgt := 291) hC d_m11_lay_194 (by decide) ?_ ?_
    · refine Sm.iload hC d_m11_lay_291 4 rfl ?_
      refine Sm.aload_n hC d_m11_lay_293 rfl 0 rfl ?_
      refine Sm.getR hC fl_m11_34 rfl d_m11_lay_294 (fun v2 => ?_)
      refine Sm.iload_n hC d_m11_lay_297 rfl 1 rfl ?_
      refine Sm.iald hC d_m11_lay_298 (fun v3 => ?_)
      refine Sm.icmp_ge (tgt := 320) hC d_m11_lay_299 (by decide) ?_ ?_
      · refine Sm.sub [0, 1, 2, 3, 4] rfl ?_
        exact w_m11_lay_320 hC hR k172 hk172 r0 x1 x2 x3 x4 M
      · refine Sm.aload_n hC d_m11_lay_302 rfl 0 rfl ?_
        refine Sm.aload_n hC d_m11_lay_303 rfl 0 rfl ?_
        refine Sm.getR hC fl_m11_109 rfl d_m11_lay_304 (fun v4 => ?_)
        refine Sm.iload hC d_m11_lay_307 4 rfl ?_
        refine Sm.iald hC d_m11_lay_309 (fun v5 => ?_)
        refine Sm.aload_n hC d_m11_lay_310 rfl 0 rfl ?_
        refine Sm.getR hC fl_m11_112 rfl d_m11_lay_311 (fun v6 => ?_)
        refine Sm.iload hC d_m11_lay_314 4 rfl ?_
        refine Sm.iald hC d_m11_lay_316 (fun v7 => ?_)
        refine Sm.callVv 11 (As := [.int v5, .int v7]) (st := []) hC hR cw_m11_put (tw_i 1245 (by decide +kernel)) (tw_i 1247 (by decide +kernel)) (tw_i 52 (by decide +kernel)) ⟨_, rfl, rfl⟩ (fun r9 M9 h9 => ok_m11_put h9) rfl rfl (RW.of ⟨rfl, rfl, by decide, by decide⟩) (by simp) d_m11_lay_317 (fun _ M8 => ?_)
        refine Sm.sub [0, 1, 2, 3, 4] rfl ?_
        exact w_m11_lay_320 hC hR k172 hk172 r0 x1 x2 x3 x4 M8
    · refine Sm.aload_n hC d_m11_lay_197 rfl 0 rfl ?_
      refine Sm.getR hC fl_m11_22 rfl d_m11_lay_198 (fun v9 => ?_)
      refine Sm.iload hC d_m11_lay_201 5 rfl ?_
      refine Sm.iald hC d_m11_lay_203 (fun v10 => ?_)
      refine Sm.iconst (v := 2) hC d_m11_lay_204 (by decide) ?_
      refine Sm.icmp_ne (tgt := 285) hC d_m11_lay_205 (by decide) ?_ ?_
      · exact w_m11_lay_285 hC hR k172 (s_m11_lay_188 k172 n) hk172 ih r0 x1 x2 x3 x4 x5 M
      · refine Sm.aload_n hC d_m11_lay_208 rfl 0 rfl ?_
        refine Sm.getR hC fl_m11_37 rfl d_m11_lay_209 (fun v11 => ?_)
        refine Sm.iload hC d_m11_lay_212 5 rfl ?_
        refine Sm.iald hC d_m11_lay_214 (fun v12 => ?_)
        refine Sm.iload_n hC d_m11_lay_215 rfl 1 rfl ?_
        refine Sm.icmp_ne (tgt := 285) hC d_m11_lay_216 (by decide) ?_ ?_
        · exact w_m11_lay_285 hC hR k172 (s_m11_lay_188 k172 n) hk172 ih r0 x1 x2 x3 x4 x5 M
        · refine Sm.aload_n hC d_m11_lay_219 rfl 0 rfl ?_
          refine Sm.getR hC fl_m11_40 rfl d_m11_lay_220 (fun v13 => ?_)
          refine Sm.iload hC d_m11_lay_223 5 rfl ?_
          refine Sm.iald hC d_m11_lay_225 (fun v14 => ?_)
          refine Sm.iload hC d_m11_lay_226 4 rfl ?_
          refine Sm.icmp_ne (tgt := 285) hC d_m11_lay_228 (by decide) ?_ ?_
          · exact w_m11_lay_285 hC hR k172 (s_m11_lay_188 k172 n) hk172 ih r0 x1 x2 x3 x4 x5 M
          · refine Sm.aload_n hC d_m11_lay_231 rfl 0 rfl ?_
            refine Sm.iload hC d_m11_lay_232 5 rfl ?_
            refine Sm.iload_n hC d_m11_lay_234 rfl 2 rfl ?_
            refine Sm.iload_n hC d_m11_lay_235 rfl 3 rfl ?_
            refine Sm.callVi 11 (As := [.int x5, .int x2, .int x3]) (st := []) hC hR cw_m11_isThere (tw_i 1233 (by decide +kernel)) (tw_i 1235 (by decide +kernel)) (tw_i 49 (by decide +kernel)) ⟨_, rfl, rfl⟩ (fun r9 M9 h9 => ok_m11_isThere h9) rfl rfl (RW.of ⟨rfl, rfl, by decide, by decide⟩) (by simp) d_m11_lay_236 (fun v15 M16 => ?_)
            refine Sm.if_ne (tgt := 245) hC d_m11_lay_239 (by decide) ?_ ?_
            · refine Sm.iconst (v := 0) hC d_m11_lay_245 (by decide) ?_
              refine Sm.istore (lv' := [(6, .int (0 : Int32)), (0, rv V.1 r0), (1, .int x1), (2, .int x2), (3, .int x3), (4, .int x4), (5, .int x5)]) hC d_m11_lay_246 (by decide) rfl ?_
              refine Sm.sub [1, 2, 3, 4, 5, 6, 0] rfl ?_
              exact w_m11_lay_248 hC hR k172 (s_m11_lay_188 k172 n) hk172 ih FU r0 x1 x2 x3 x4 x5 (0 : Int32) M16
            · refine Sm.goto (tgt := 285) hC d_m11_lay_242 (by decide) ?_
              exact w_m11_lay_285 hC hR k172 (s_m11_lay_188 k172 n) hk172 ih r0 x1 x2 x3 x4 x5 M16
set_option maxRecDepth 100000 in
set_option maxHeartbeats 4000000 in
theorem w_m11_lay_172 {V : Ev} {C : Cx} {n0 : Nat} (hC : Cok V C y_m11_lay.cls b_m11_lay 7 n0 none y_m11_lay.name) (hR : cR C = rm_m11_lay)  : ∀ (n : Nat) (r0 : Nat) (x1 : Int32) (x2 : Int32) (x3 : Int32) (x4 : Int32) (M : Mm), Sm V C 7 n0 n0 (qV V C) 172 [(0, rv V.1 r0), (1, .int x1), (2, .int x2), (3, .int x3), (4, .int x4)] [] M (s_m11_lay_172 n r0 x1 x2 x3 x4 M) := by
  intro n
  induction n with
  | zero => exact fun r0 x1 x2 x3 x4 M => Sm.none_
  | succ n ih =>
    intro r0 x1 x2 x3 x4 M
    unfold s_m11_lay_172
    refine Sm.iload hC d_m11_lay_172 4 rfl ?_
    refine Sm.aload_n hC d_m11_lay_174 rfl 0 rfl ?_
    refine Sm.getR hC fl_m11_34 rfl d_m11_lay_175 (fun v1 => ?_)
    refine Sm.iload_n hC d_m11_lay_178 rfl 1 rfl ?_
    refine Sm.iald hC d_m11_lay_179 (fun v2 => ?_)
    refine Sm.icmp_gt (tgt := 326) hC d_m11_lay_180 (by decide) ?_ ?_
    · exact Sm.vret hC d_m11_lay_326 rfl (Nat.sub_self _)
    · refine Sm.iload_n hC d_m11_lay_183 rfl 1 rfl ?_
      refine Sm.iconst (v := 1) hC d_m11_lay_184 (by decide) ?_
      refine Sm.iadd hC d_m11_lay_185 ?_
      refine Sm.istore (lv' := [(5, .int (x1 + (1 : Int32))), (0, rv V.1 r0), (1, .int x1), (2, .int x2), (3, .int x3), (4, .int x4)]) hC d_m11_lay_186 (by decide) rfl ?_
      refine Sm.sub [1, 2, 3, 4, 5, 0] rfl ?_
      exact w_m11_lay_188 hC hR (s_m11_lay_172 n) ih FU r0 x1 x2 x3 x4 (x1 + (1 : Int32)) M
set_option maxRecDepth 100000 in
set_option maxHeartbeats 4000000 in
theorem w_m11_lay_163 {V : Ev} {C : Cx} {n0 : Nat} (hC : Cok V C y_m11_lay.cls b_m11_lay 7 n0 none y_m11_lay.name) (hR : cR C = rm_m11_lay) (k52 : Nat → Int32 → Int32 → Int32 → Int32 → Mm → Option (Unit × Mm)) (hk52 : ∀ (r0 : Nat) (x1 : Int32) (x2 : Int32) (x3 : Int32) (x4 : Int32) (M : Mm), Sm V C 7 n0 n0 (qV V C) 52 [(0, rv V.1 r0), (1, .int x1), (2, .int x2), (3, .int x3), (4, .int x4)] [] M (k52 r0 x1 x2 x3 x4 M)) : ∀ (r0 : Nat) (x1 : Int32) (x2 : Int32) (x3 : Int32) (x4 : Int32) (M : Mm), Sm V C 7 n0 n0 (qV V C) 163 [(0, rv V.1 r0), (1, .int x1), (2, .int x2), (3, .int x3), (4, .int x4)] [] M (s_m11_lay_163 k52 r0 x1 x2 x3 x4 M) := by
  intro r0 x1 x2 x3 x4 M
  unfold s_m11_lay_163
  refine Sm.iinc (v := x4 + 1) (lv' := [(4, .int (x4 + 1)), (0, rv V.1 r0), (1, .int x1), (2, .int x2), (3, .int x3)]) hC d_m11_lay_163 4 rfl rfl (by decide) rfl ?_
  refine Sm.goto (tgt := 52) hC d_m11_lay_166 (by decide) ?_
  refine Sm.sub [1, 2, 3, 4, 0] rfl ?_
  exact hk52 r0 x1 x2 x3 (x4 + 1) M
set_option maxRecDepth 100000 in
set_option maxHeartbeats 4000000 in
theorem w_m11_lay_100 {V : Ev} {C : Cx} {n0 : Nat} (hC : Cok V C y_m11_lay.cls b_m11_lay 7 n0 none y_m11_lay.name) (hR : cR C = rm_m11_lay) (k52 : Nat → Int32 → Int32 → Int32 → Int32 → Mm → Option (Unit × Mm)) (hk52 : ∀ (r0 : Nat) (x1 : Int32) (x2 : Int32) (x3 : Int32) (x4 : Int32) (M : Mm), Sm V C 7 n0 n0 (qV V C) 52 [(0, rv V.1 r0), (1, .int x1), (2, .int x2), (3, .int x3), (4, .int x4)] [] M (k52 r0 x1 x2 x3 x4 M)) : ∀ (n : Nat) (r0 : Nat) (x1 : Int32) (x2 : Int32) (x3 : Int32) (x4 : Int32) (x5 : Int32) (M : Mm), Sm V C 7 n0 n0 (qV V C) 100 [(0, rv V.1 r0), (1, .int x1), (2, .int x2), (3, .int x3), (4, .int x4), (5, .int x5)] [] M (s_m11_lay_100 k52 n r0 x1 x2 x3 x4 x5 M) := by
  intro n
  induction n with
  | zero => exact fun r0 x1 x2 x3 x4 x5 M => Sm.none_
  | succ n ih =>
    intro r0 x1 x2 x3 x4 x5 M
    unfold s_m11_lay_100
    refine Sm.iload hC d_m11_lay_100 5 rfl ?_
    refine Sm.aload_n hC d_m11_lay_102 rfl 0 rfl ?_
    refine Sm.getR hC fl_m11_34 rfl d_m11_lay_103 (fun v1 => ?_)
    refine Sm.iload hC d_m11_lay_106 4 rfl ?_
    refine Sm.iald hC d_m11_lay_108 (fun v2 => ?_)
    refine Sm.icmp_ge (tgt := 163) hC d_m11_lay_109 (by decide) ?_ ?_
    · refine Sm.sub [0, 1, 2, 3, 4] rfl ?_
      exact w_m11_lay_163 hC hR k52 hk52 r0 x1 x2 x3 x4 M
    · refine Sm.aload_n hC d_m11_lay_112 rfl 0 rfl ?_
      refine Sm.getR hC fl_m11_109 rfl d_m11_lay_113 (fun v3 => ?_)
      refine Sm.aload_n hC d_m11_lay_116 rfl 0 rfl ?_
      refine Sm.getR hC fl_m11_40 rfl d_m11_lay_117 (fun v4 => ?_)
      refine Sm.iload hC d_m11_lay_120 4 rfl ?_
      refine Sm.iald hC d_m11_lay_122 (fun v5 => ?_)
      refine Sm.iload hC d_m11_lay_123 5 rfl ?_
      refine Sm.iadd hC d_m11_lay_125 ?_
      refine Sm.aload_n hC d_m11_lay_126 rfl 0 rfl ?_
      refine Sm.getR hC fl_m11_43 rfl d_m11_lay_127 (fun v6 => ?_)
      refine Sm.bipush (v := 12) hC d_m11_lay_130 (by decide) ?_
      refine Sm.iload hC d_m11_lay_132 4 rfl ?_
      refine Sm.imul hC d_m11_lay_134 ?_
      refine Sm.iload hC d_m11_lay_135 5 rfl ?_
      refine Sm.iadd hC d_m11_lay_137 ?_
      refine Sm.iald hC d_m11_lay_138 (fun v7 => ?_)
      refine Sm.iast hC d_m11_lay_139 (fun M8 => ?_)
      refine Sm.aload_n hC d_m11_lay_140 rfl 0 rfl ?_
      refine Sm.getR hC fl_m11_112 rfl d_m11_lay_141 (fun v9 => ?_)
      refine Sm.aload_n hC d_m11_lay_144 rfl 0 rfl ?_
      refine Sm.getR hC fl_m11_40 rfl d_m11_lay_145 (fun v10 => ?_)
      refine Sm.iload hC d_m11_lay_148 4 rfl ?_
      refine Sm.iald hC d_m11_lay_150 (fun v11 => ?_)
      refine Sm.iload hC d_m11_lay_151 5 rfl ?_
      refine Sm.iadd hC d_m11_lay_153 ?_
      refine Sm.iload hC d_m11_lay_154 4 rfl ?_
      refine Sm.iast hC d_m11_lay_156 (fun M12 => ?_)
      refine Sm.iinc (v := x5 + 1) (lv' := [(5, .int (x5 + 1)), (0, rv V.1 r0), (1, .int x1), (2, .int x2), (3, .int x3), (4, .int x4)]) hC d_m11_lay_157 5 rfl rfl (by decide) rfl ?_
      refine Sm.goto (tgt := 100) hC d_m11_lay_160 (by decide) ?_
      refine Sm.sub [1, 2, 3, 4, 5, 0] rfl ?_
      exact ih r0 x1 x2 x3 x4 (x5 + 1) M12
set_option maxRecDepth 100000 in
set_option maxHeartbeats 4000000 in
theorem w_m11_lay_52 {V : Ev} {C : Cx} {n0 : Nat} (hC : Cok V C y_m11_lay.cls b_m11_lay 7 n0 none y_m11_lay.name) (hR : cR C = rm_m11_lay)  : ∀ (n : Nat) (r0 : Nat) (x1 : Int32) (x2 : Int32) (x3 : Int32) (x4 : Int32) (M : Mm), Sm V C 7 n0 n0 (qV V C) 52 [(0, rv V.1 r0), (1, .int x1), (2, .int x2), (3, .int x3), (4, .int x4)] [] M (s_m11_lay_52 n r0 x1 x2 x3 x4 M) := by
  intro n
  induction n with
  | zero => exact fun r0 x1 x2 x3 x4 M => Sm.none_
  | succ n ih =>
    intro r0 x1 x2 x3 x4 M
    unfold s_m11_lay_52
    refine Sm.iload hC d_m11_lay_52 4 rfl ?_
    refine Sm.aload_n hC d_m11_lay_54 rfl 0 rfl ?_
    refine Sm.getI hC fl_m11_143 rfl d_m11_lay_55 (fun v1 => ?_)
    refine Sm.icmp_ge (tgt := 169) hC d_m11_lay_58 (by decide) ?_ ?_
    · refine Sm.iconst (v := 0) hC d_m11_lay_169 (by decide) ?_
      refine Sm.istore (lv' := [(4, .int (0 : Int32)), (0, rv V.1 r0), (1, .int x1), (2, .int x2), (3, .int x3)]) hC d_m11_lay_170 (by decide) rfl ?_
      refine Sm.sub [1, 2, 3, 4, 0] rfl ?_
      exact w_m11_lay_172 hC hR FU r0 x1 x2 x3 (0 : Int32) M
    · refine Sm.aload_n hC d_m11_lay_61 rfl 0 rfl ?_
      refine Sm.getR hC fl_m11_22 rfl d_m11_lay_62 (fun v2 => ?_)
      refine Sm.iload hC d_m11_lay_65 4 rfl ?_
      refine Sm.iald hC d_m11_lay_67 (fun v3 => ?_)
      refine Sm.iconst (v := 3) hC d_m11_lay_68 (by decide) ?_
      refine Sm.icmp_ne (tgt := 163) hC d_m11_lay_69 (by decide) ?_ ?_
      · exact w_m11_lay_163 hC hR (s_m11_lay_52 n) ih r0 x1 x2 x3 x4 M
      · refine Sm.aload_n hC d_m11_lay_72 rfl 0 rfl ?_
        refine Sm.getR hC fl_m11_37 rfl d_m11_lay_73 (fun v4 => ?_)
        refine Sm.iload hC d_m11_lay_76 4 rfl ?_
        refine Sm.iald hC d_m11_lay_78 (fun v5 => ?_)
        refine Sm.iload_n hC d_m11_lay_79 rfl 1 rfl ?_
        refine Sm.icmp_ne (tgt := 163) hC d_m11_lay_80 (by decide) ?_ ?_
        · exact w_m11_lay_163 hC hR (s_m11_lay_52 n) ih r0 x1 x2 x3 x4 M
        · refine Sm.aload_n hC d_m11_lay_83 rfl 0 rfl ?_
          refine Sm.iload hC d_m11_lay_84 4 rfl ?_
          refine Sm.iload_n hC d_m11_lay_86 rfl 2 rfl ?_
          refine Sm.iload_n hC d_m11_lay_87 rfl 3 rfl ?_
          refine Sm.callVi 11 (As := [.int x4, .int x2, .int x3]) (st := []) hC hR cw_m11_isThere (tw_i 1233 (by decide +kernel)) (tw_i 1235 (by decide +kernel)) (tw_i 49 (by decide +kernel)) ⟨_, rfl, rfl⟩ (fun r9 M9 h9 => ok_m11_isThere h9) rfl rfl (RW.of ⟨rfl, rfl, by decide, by decide⟩) (by simp) d_m11_lay_88 (fun v6 M7 => ?_)
          refine Sm.if_ne (tgt := 97) hC d_m11_lay_91 (by decide) ?_ ?_
          · refine Sm.iconst (v := 0) hC d_m11_lay_97 (by decide) ?_
            refine Sm.istore (lv' := [(5, .int (0 : Int32)), (0, rv V.1 r0), (1, .int x1), (2, .int x2), (3, .int x3), (4, .int x4)]) hC d_m11_lay_98 (by decide) rfl ?_
            refine Sm.sub [1, 2, 3, 4, 5, 0] rfl ?_
            exact w_m11_lay_100 hC hR (s_m11_lay_52 n) ih FU r0 x1 x2 x3 x4 (0 : Int32) M7
          · refine Sm.goto (tgt := 163) hC d_m11_lay_94 (by decide) ?_
            exact w_m11_lay_163 hC hR (s_m11_lay_52 n) ih r0 x1 x2 x3 x4 M7
set_option maxRecDepth 100000 in
set_option maxHeartbeats 4000000 in
theorem w_m11_lay_3 {V : Ev} {C : Cx} {n0 : Nat} (hC : Cok V C y_m11_lay.cls b_m11_lay 7 n0 none y_m11_lay.name) (hR : cR C = rm_m11_lay)  : ∀ (n : Nat) (r0 : Nat) (x1 : Int32) (x2 : Int32) (x3 : Int32) (x4 : Int32) (M : Mm), Sm V C 7 n0 n0 (qV V C) 3 [(0, rv V.1 r0), (1, .int x1), (2, .int x2), (3, .int x3), (4, .int x4)] [] M (s_m11_lay_3 n r0 x1 x2 x3 x4 M) := by
  intro n
  induction n with
  | zero => exact fun r0 x1 x2 x3 x4 M => Sm.none_
  | succ n ih =>
    intro r0 x1 x2 x3 x4 M
    unfold s_m11_lay_3
    refine Sm.iload hC d_m11_lay_3 4 rfl ?_
    refine Sm.aload_n hC d_m11_lay_5 rfl 0 rfl ?_
    refine Sm.getR hC fl_m11_34 rfl d_m11_lay_6 (fun v1 => ?_)
    refine Sm.iload_n hC d_m11_lay_9 rfl 1 rfl ?_
    refine Sm.iald hC d_m11_lay_10 (fun v2 => ?_)
    refine Sm.icmp_ge (tgt := 47) hC d_m11_lay_11 (by decide) ?_ ?_
    · refine Sm.iload_n hC d_m11_lay_47 rfl 1 rfl ?_
      refine Sm.iconst (v := 1) hC d_m11_lay_48 (by decide) ?_
      refine Sm.iadd hC d_m11_lay_49 ?_
      refine Sm.istore (lv' := [(4, .int (x1 + (1 : Int32))), (0, rv V.1 r0), (1, .int x1), (2, .int x2), (3, .int x3)]) hC d_m11_lay_50 (by decide) rfl ?_
      refine Sm.sub [1, 2, 3, 4, 0] rfl ?_
      exact w_m11_lay_52 hC hR FU r0 x1 x2 x3 (x1 + (1 : Int32)) M
    · refine Sm.aload_n hC d_m11_lay_14 rfl 0 rfl ?_
      refine Sm.getR hC fl_m11_109 rfl d_m11_lay_15 (fun v3 => ?_)
      refine Sm.iload hC d_m11_lay_18 4 rfl ?_
      refine Sm.aload_n hC d_m11_lay_20 rfl 0 rfl ?_
      refine Sm.getR hC fl_m11_43 rfl d_m11_lay_21 (fun v4 => ?_)
      refine Sm.bipush (v := 12) hC d_m11_lay_24 (by decide) ?_
      refine Sm.iload_n hC d_m11_lay_26 rfl 1 rfl ?_
      refine Sm.imul hC d_m11_lay_27 ?_
      refine Sm.iload hC d_m11_lay_28 4 rfl ?_
      refine Sm.iadd hC d_m11_lay_30 ?_
      refine Sm.iald hC d_m11_lay_31 (fun v5 => ?_)
      refine Sm.iast hC d_m11_lay_32 (fun M6 => ?_)
      refine Sm.aload_n hC d_m11_lay_33 rfl 0 rfl ?_
      refine Sm.getR hC fl_m11_112 rfl d_m11_lay_34 (fun v7 => ?_)
      refine Sm.iload hC d_m11_lay_37 4 rfl ?_
      refine Sm.iload_n hC d_m11_lay_39 rfl 1 rfl ?_
      refine Sm.iast hC d_m11_lay_40 (fun M8 => ?_)
      refine Sm.iinc (v := x4 + 1) (lv' := [(4, .int (x4 + 1)), (0, rv V.1 r0), (1, .int x1), (2, .int x2), (3, .int x3)]) hC d_m11_lay_41 4 rfl rfl (by decide) rfl ?_
      refine Sm.goto (tgt := 3) hC d_m11_lay_44 (by decide) ?_
      refine Sm.sub [1, 2, 3, 4, 0] rfl ?_
      exact ih r0 x1 x2 x3 (x4 + 1) M8
set_option maxRecDepth 100000 in
set_option maxHeartbeats 4000000 in
theorem ok_m11_lay {l : Launch} {V : Ev} {M M' : Mm} {r : Unit} {r0 : Nat} {a1 : Int32} {a2 : Int32} {a3 : Int32} (h : s_m11_lay r0 a1 a2 a3 M = some (r, M')) : Met l y_m11_lay (Cond.code y_m11_lay b_m11_lay 7 none :: TW) rm_m11_lay (va_Pc [rv V.1 r0, .int a1, .int a2, .int a3] (Wd V M)) (QC V none M' 0) 0 0 (Af V) := by
  refine met_of (fun _ : Unit => none) (lv0 := [(0, rv V.1 r0), (1, .int a1), (2, .int a2), (3, .int a3)]) (by decide) (by simp [lg_sl, cat_rv, cat_i, cat_l, cat_f]) (by simp [lv_args, cat_rv, cat_i, cat_l, cat_f]) (fun C hl hR hC => ?_) h
  subst hl
  generalize mN M = n0 at hC ⊢
  unfold s_m11_lay
  refine Sm.iconst (v := 0) hC d_m11_lay_0 (by decide) ?_
  refine Sm.istore (lv' := [(4, .int (0 : Int32)), (0, rv V.1 r0), (1, .int a1), (2, .int a2), (3, .int a3)]) hC d_m11_lay_1 (by decide) rfl ?_
  refine Sm.sub [1, 2, 3, 4, 0] rfl ?_
  exact w_m11_lay_3 hC hR FU r0 a1 a2 a3 (0 : Int32) M
/-! NewsWireModel.latest(IIII)I -/
abbrev b_m11_latest : ByteArray := prog_13_method_50_code
def y_m11_latest : MethodName := ⟨"NewsWireModel", "latest", "(IIII)I"⟩
def rm_m11_latest : Room := { frames := 3, cells := 0, slots := 0, locals := 108 }
theorem cw_m11_latest : CW y_m11_latest b_m11_latest 7 (some .int) 4 := ⟨tw_i 66 (by decide +kernel), tw_i 1232 (by decide +kernel), by decide, by decide, by decide +kernel⟩
theorem d_m11_latest_0 : decode b_m11_latest 0 = .ok (.aload_n 0, 1) := by decide +kernel
theorem d_m11_latest_1 : decode b_m11_latest 1 = .ok (.getfield 143, 3) := by decide +kernel
theorem d_m11_latest_4 : decode b_m11_latest 4 = .ok (.iconst 1, 1) := by decide +kernel
theorem d_m11_latest_5 : decode b_m11_latest 5 = .ok (.isub, 1) := by decide +kernel
theorem d_m11_latest_6 : decode b_m11_latest 6 = .ok (.istore 5, 2) := by decide +kernel
theorem d_m11_latest_8 : decode b_m11_latest 8 = .ok (.iload 5, 2) := by decide +kernel
theorem d_m11_latest_10 : decode b_m11_latest 10 = .ok (.ifCond .lt 104, 3) := by decide +kernel
theorem d_m11_latest_13 : decode b_m11_latest 13 = .ok (.iload 4, 2) := by decide +kernel
theorem d_m11_latest_15 : decode b_m11_latest 15 = .ok (.iconst (-1), 1) := by decide +kernel
theorem d_m11_latest_16 : decode b_m11_latest 16 = .ok (.if_icmp .ne 22, 3) := by decide +kernel
theorem d_m11_latest_19 : decode b_m11_latest 19 = .ok (.aload_n 0, 1) := by decide +kernel
theorem d_m11_latest_20 : decode b_m11_latest 20 = .ok (.getfield 22, 3) := by decide +kernel
theorem d_m11_latest_23 : decode b_m11_latest 23 = .ok (.iload 5, 2) := by decide +kernel
theorem d_m11_latest_25 : decode b_m11_latest 25 = .ok (.iaload, 1) := by decide +kernel
theorem d_m11_latest_26 : decode b_m11_latest 26 = .ok (.iconst 1, 1) := by decide +kernel
theorem d_m11_latest_27 : decode b_m11_latest 27 = .ok (.if_icmp .ne 7, 3) := by decide +kernel
theorem d_m11_latest_30 : decode b_m11_latest 30 = .ok (.iconst 1, 1) := by decide +kernel
theorem d_m11_latest_31 : decode b_m11_latest 31 = .ok (.goto 45, 3) := by decide +kernel
theorem d_m11_latest_34 : decode b_m11_latest 34 = .ok (.iconst 0, 1) := by decide +kernel
theorem d_m11_latest_35 : decode b_m11_latest 35 = .ok (.goto 41, 3) := by decide +kernel
theorem d_m11_latest_38 : decode b_m11_latest 38 = .ok (.aload_n 0, 1) := by decide +kernel
theorem d_m11_latest_39 : decode b_m11_latest 39 = .ok (.getfield 22, 3) := by decide +kernel
theorem d_m11_latest_42 : decode b_m11_latest 42 = .ok (.iload 5, 2) := by decide +kernel
theorem d_m11_latest_44 : decode b_m11_latest 44 = .ok (.iaload, 1) := by decide +kernel
theorem d_m11_latest_45 : decode b_m11_latest 45 = .ok (.ifCond .eq 14, 3) := by decide +kernel
theorem d_m11_latest_48 : decode b_m11_latest 48 = .ok (.aload_n 0, 1) := by decide +kernel
theorem d_m11_latest_49 : decode b_m11_latest 49 = .ok (.getfield 22, 3) := by decide +kernel
theorem d_m11_latest_52 : decode b_m11_latest 52 = .ok (.iload 5, 2) := by decide +kernel
theorem d_m11_latest_54 : decode b_m11_latest 54 = .ok (.iaload, 1) := by decide +kernel
theorem d_m11_latest_55 : decode b_m11_latest 55 = .ok (.iconst 5, 1) := by decide +kernel
theorem d_m11_latest_56 : decode b_m11_latest 56 = .ok (.if_icmp .ne 19, 3) := by decide +kernel
theorem d_m11_latest_59 : decode b_m11_latest 59 = .ok (.aload_n 0, 1) := by decide +kernel
theorem d_m11_latest_60 : decode b_m11_latest 60 = .ok (.getfield 37, 3) := by decide +kernel
theorem d_m11_latest_63 : decode b_m11_latest 63 = .ok (.iload 5, 2) := by decide +kernel
theorem d_m11_latest_65 : decode b_m11_latest 65 = .ok (.iaload, 1) := by decide +kernel
theorem d_m11_latest_66 : decode b_m11_latest 66 = .ok (.iload 4, 2) := by decide +kernel
theorem d_m11_latest_68 : decode b_m11_latest 68 = .ok (.if_icmp .ne 7, 3) := by decide +kernel
theorem d_m11_latest_71 : decode b_m11_latest 71 = .ok (.iconst 1, 1) := by decide +kernel
theorem d_m11_latest_72 : decode b_m11_latest 72 = .ok (.goto 4, 3) := by decide +kernel
theorem d_m11_latest_75 : decode b_m11_latest 75 = .ok (.iconst 0, 1) := by decide +kernel
theorem d_m11_latest_76 : decode b_m11_latest 76 = .ok (.istore 6, 2) := by decide +kernel
theorem d_m11_latest_78 : decode b_m11_latest 78 = .ok (.iload 6, 2) := by decide +kernel
theorem d_m11_latest_80 : decode b_m11_latest 80 = .ok (.ifCond .eq 28, 3) := by decide +kernel
theorem d_m11_latest_83 : decode b_m11_latest 83 = .ok (.aload_n 0, 1) := by decide +kernel
theorem d_m11_latest_84 : decode b_m11_latest 84 = .ok (.getfield 25, 3) := by decide +kernel
theorem d_m11_latest_87 : decode b_m11_latest 87 = .ok (.iload 5, 2) := by decide +kernel
theorem d_m11_latest_89 : decode b_m11_latest 89 = .ok (.iaload, 1) := by decide +kernel
theorem d_m11_latest_90 : decode b_m11_latest 90 = .ok (.iload_n 1, 1) := by decide +kernel
theorem d_m11_latest_91 : decode b_m11_latest 91 = .ok (.if_icmp .ne 17, 3) := by decide +kernel
theorem d_m11_latest_94 : decode b_m11_latest 94 = .ok (.aload_n 0, 1) := by decide +kernel
theorem d_m11_latest_95 : decode b_m11_latest 95 = .ok (.iload 5, 2) := by decide +kernel
theorem d_m11_latest_97 : decode b_m11_latest 97 = .ok (.iload_n 2, 1) := by decide +kernel
theorem d_m11_latest_98 : decode b_m11_latest 98 = .ok (.iload_n 3, 1) := by decide +kernel
theorem d_m11_latest_99 : decode b_m11_latest 99 = .ok (.invokevirtual 269, 3) := by decide +kernel
theorem d_m11_latest_102 : decode b_m11_latest 102 = .ok (.ifCond .eq 6, 3) := by decide +kernel
theorem d_m11_latest_105 : decode b_m11_latest 105 = .ok (.iload 5, 2) := by decide +kernel
theorem d_m11_latest_107 : decode b_m11_latest 107 = .ok (.ireturn, 1) := by decide +kernel
theorem d_m11_latest_108 : decode b_m11_latest 108 = .ok (.iinc 5 (-1), 3) := by decide +kernel
theorem d_m11_latest_111 : decode b_m11_latest 111 = .ok (.goto (-103), 3) := by decide +kernel
theorem d_m11_latest_114 : decode b_m11_latest 114 = .ok (.iconst (-1), 1) := by decide +kernel
theorem d_m11_latest_115 : decode b_m11_latest 115 = .ok (.ireturn, 1) := by decide +kernel
def s_m11_latest_108 (k8 : Nat → Int32 → Int32 → Int32 → Int32 → Int32 → Mm → Option (Int32 × Mm)) (r0 : Nat) (x1 : Int32) (x2 : Int32) (x3 : Int32) (x4 : Int32) (x5 : Int32) (M : Mm) : Option (Int32 × Mm) := k8 r0 x1 x2 x3 x4 (x5 + (-1)) M
def s_m11_latest_76 (k8 : Nat → Int32 → Int32 → Int32 → Int32 → Int32 → Mm → Option (Int32 × Mm)) (r0 : Nat) (x1 : Int32) (x2 : Int32) (x3 : Int32) (x4 : Int32) (x5 : Int32) (t0 : Int32) (M : Mm) : Option (Int32 × Mm) := (if t0 = 0 then s_m11_latest_108 k8 r0 x1 x2 x3 x4 x5 M else gR M r0 21 8 (fun v1 => aI M v1 0 x5 (fun v2 => (if ¬ v2 = x1 then s_m11_latest_108 k8 r0 x1 x2 x3 x4 x5 M else cl (has M r0 21) (s_m11_isThere r0 x5 x2 x3 M) (fun v3 M4 => (if v3 = 0 then s_m11_latest_108 k8 r0 x1 x2 x3 x4 x5 M4 else some (x5, M4)))))))
def s_m11_latest_75 (k8 : Nat → Int32 → Int32 → Int32 → Int32 → Int32 → Mm → Option (Int32 × Mm)) (r0 : Nat) (x1 : Int32) (x2 : Int32) (x3 : Int32) (x4 : Int32) (x5 : Int32) (M : Mm) : Option (Int32 × Mm) := s_m11_latest_76 k8 r0 x1 x2 x3 x4 x5 (0 : Int32) M
def s_m11_latest_59 (k8 : Nat → Int32 → Int32 → Int32 → Int32 → Int32 → Mm → Option (Int32 × Mm)) (r0 : Nat) (x1 : Int32) (x2 : Int32) (x3 : Int32) (x4 : Int32) (x5 : Int32) (M : Mm) : Option (Int32 × Mm) := gR M r0 21 12 (fun v1 => aI M v1 0 x5 (fun v2 => (if ¬ v2 = x4 then s_m11_latest_75 k8 r0 x1 x2 x3 x4 x5 M else s_m11_latest_76 k8 r0 x1 x2 x3 x4 x5 (1 : Int32) M)))
def s_m11_latest_8  : Nat → Nat → Int32 → Int32 → Int32 → Int32 → Int32 → Mm → Option (Int32 × Mm)
  | 0, _, _, _, _, _, _, _ => none
  | n + 1, r0, x1, x2, x3, x4, x5, M => (if x5 < 0 then some ((-1 : Int32), M) else (if ¬ x4 = (-1 : Int32) then gR M r0 21 7 (fun v1 => aI M v1 0 x5 (fun v2 => (if v2 = 0 then s_m11_latest_59 (s_m11_latest_8 n) r0 x1 x2 x3 x4 x5 M else gR M r0 21 7 (fun v3 => aI M v3 0 x5 (fun v4 => (if ¬ v4 = (5 : Int32) then s_m11_latest_75 (s_m11_latest_8 n) r0 x1 x2 x3 x4 x5 M else s_m11_latest_59 (s_m11_latest_8 n) r0 x1 x2 x3 x4 x5 M)))))) else gR M r0 21 7 (fun v5 => aI M v5 0 x5 (fun v6 => (if ¬ v6 = (1 : Int32) then s_m11_latest_76 (s_m11_latest_8 n) r0 x1 x2 x3 x4 x5 (0 : Int32) M else s_m11_latest_76 (s_m11_latest_8 n) r0 x1 x2 x3 x4 x5 (1 : Int32) M)))))
def s_m11_latest (r0 : Nat) (a1 : Int32) (a2 : Int32) (a3 : Int32) (a4 : Int32) (M : Mm) : Option (Int32 × Mm) := gI M r0 21 6 (fun v1 => s_m11_latest_8 FU r0 a1 a2 a3 a4 (v1 - (1 : Int32)) M)
set_option maxRecDepth 100000 in
set_option maxHeartbeats 4000000 in
theorem w_m11_latest_108 {V : Ev} {C : Cx} {n0 : Nat} (hC : Cok V C y_m11_latest.cls b_m11_latest 7 n0 (some .int) y_m11_latest.name) (hR : cR C = rm_m11_latest) (k8 : Nat → Int32 → Int32 → Int32 → Int32 → Int32 → Mm → Option (Int32 × Mm)) (hk8 : ∀ (r0 : Nat) (x1 : Int32) (x2 : Int32) (x3 : Int32) (x4 : Int32) (x5 : Int32) (M : Mm), Sm V C 7 n0 n0 (qI V C) 8 [(0, rv V.1 r0), (1, .int x1), (2, .int x2), (3, .int x3), (4, .int x4), (5, .int x5)] [] M (k8 r0 x1 x2 x3 x4 x5 M)) : ∀ (r0 : Nat) (x1 : Int32) (x2 : Int32) (x3 : Int32) (x4 : Int32) (x5 : Int32) (M : Mm), Sm V C 7 n0 n0 (qI V C) 108 [(0, rv V.1 r0), (1, .int x1), (2, .int x2), (3, .int x3), (4, .int x4), (5, .int x5)] [] M (s_m11_latest_108 k8 r0 x1 x2 x3 x4 x5 M) := by
  intro r0 x1 x2 x3 x4 x5 M
  unfold s_m11_latest_108
  refine Sm.iinc (v := x5 + (-1)) (lv' := [(5, .int (x5 + (-1))), (0, rv V.1 r0), (1, .int x1), (2, .int x2), (3, .int x3), (4, .int x4)]) hC d_m11_latest_108 5 rfl rfl (by decide) rfl ?_
  refine Sm.goto (tgt := 8) hC d_m11_latest_111 (by decide) ?_
  refine Sm.sub [1, 2, 3, 4, 5, 0] rfl ?_
  exact hk8 r0 x1 x2 x3 x4 (x5 + (-1)) M
set_option maxRecDepth 100000 in
set_option maxHeartbeats 4000000 in
theorem w_m11_latest_76 {V : Ev} {C : Cx} {n0 : Nat} (hC : Cok V C y_m11_latest.cls b_m11_latest 7 n0 (some .int) y_m11_latest.name) (hR : cR C = rm_m11_latest) (k8 : Nat → Int32 → Int32 → Int32 → Int32 → Int32 → Mm → Option (Int32 × Mm)) (hk8 : ∀ (r0 : Nat) (x1 : Int32) (x2 : Int32) (x3 : Int32) (x4 : Int32) (x5 : Int32) (M : Mm), Sm V C 7 n0 n0 (qI V C) 8 [(0, rv V.1 r0), (1, .int x1), (2, .int x2), (3, .int x3), (4, .int x4), (5, .int x5)] [] M (k8 r0 x1 x2 x3 x4 x5 M)) : ∀ (r0 : Nat) (x1 : Int32) (x2 : Int32) (x3 : Int32) (x4 : Int32) (x5 : Int32) (t0 : Int32) (M : Mm), Sm V C 7 n0 n0 (qI V C) 76 [(0, rv V.1 r0), (1, .int x1), (2, .int x2), (3, .int x3), (4, .int x4), (5, .int x5)] [.int t0] M (s_m11_latest_76 k8 r0 x1 x2 x3 x4 x5 t0 M) := by
  intro r0 x1 x2 x3 x4 x5 t0 M
  unfold s_m11_latest_76
  refine Sm.istore (lv' := [(6, .int t0), (0, rv V.1 r0), (1, .int x1), (2, .int x2), (3, .int x3), (4, .int x4), (5, .int x5)]) hC d_m11_latest_76 (by decide) rfl ?_
  refine Sm.iload hC d_m11_latest_78 0 rfl ?_
  refine Sm.if_eq (tgt := 108) hC d_m11_latest_80 (by decide) ?_ ?_
  · refine Sm.sub [1, 2, 3, 4, 5, 6] rfl ?_
    exact w_m11_latest_108 hC hR k8 hk8 r0 x1 x2 x3 x4 x5 M
  · refine Sm.aload_n hC d_m11_latest_83 rfl 1 rfl ?_
    refine Sm.getR hC fl_m11_25 rfl d_m11_latest_84 (fun v1 => ?_)
    refine Sm.iload hC d_m11_latest_87 6 rfl ?_
    refine Sm.iald hC d_m11_latest_89 (fun v2 => ?_)
    refine Sm.iload_n hC d_m11_latest_90 rfl 2 rfl ?_
    refine Sm.icmp_ne (tgt := 108) hC d_m11_latest_91 (by decide) ?_ ?_
    · refine Sm.sub [1, 2, 3, 4, 5, 6] rfl ?_
      exact w_m11_latest_108 hC hR k8 hk8 r0 x1 x2 x3 x4 x5 M
    · refine Sm.aload_n hC d_m11_latest_94 rfl 1 rfl ?_
      refine Sm.iload hC d_m11_latest_95 6 rfl ?_
      refine Sm.iload_n hC d_m11_latest_97 rfl 3 rfl ?_
      refine Sm.iload_n hC d_m11_latest_98 rfl 4 rfl ?_
      refine Sm.callVi 11 (As := [.int x5, .int x2, .int x3]) (st := []) hC hR cw_m11_isThere (tw_i 1233 (by decide +kernel)) (tw_i 1235 (by decide +kernel)) (tw_i 49 (by decide +kernel)) ⟨_, rfl, rfl⟩ (fun r9 M9 h9 => ok_m11_isThere h9) rfl rfl (RW.of ⟨rfl, rfl, by decide, by decide⟩) (by simp) d_m11_latest_99 (fun v3 M4 => ?_)
      refine Sm.if_eq (tgt := 108) hC d_m11_latest_102 (by decide) ?_ ?_
      · refine Sm.sub [1, 2, 3, 4, 5, 6] rfl ?_
        exact w_m11_latest_108 hC hR k8 hk8 r0 x1 x2 x3 x4 x5 M4
      · refine Sm.iload hC d_m11_latest_105 6 rfl ?_
        exact Sm.iret hC d_m11_latest_107 rfl (Nat.sub_self _)
set_option maxRecDepth 100000 in
set_option maxHeartbeats 4000000 in
theorem w_m11_latest_75 {V : Ev} {C : Cx} {n0 : Nat} (hC : Cok V C y_m11_latest.cls b_m11_latest 7 n0 (some .int) y_m11_latest.name) (hR : cR C = rm_m11_latest) (k8 : Nat → Int32 → Int32 → Int32 → Int32 → Int32 → Mm → Option (Int32 × Mm)) (hk8 : ∀ (r0 : Nat) (x1 : Int32) (x2 : Int32) (x3 : Int32) (x4 : Int32) (x5 : Int32) (M : Mm), Sm V C 7 n0 n0 (qI V C) 8 [(0, rv V.1 r0), (1, .int x1), (2, .int x2), (3, .int x3), (4, .int x4), (5, .int x5)] [] M (k8 r0 x1 x2 x3 x4 x5 M)) : ∀ (r0 : Nat) (x1 : Int32) (x2 : Int32) (x3 : Int32) (x4 : Int32) (x5 : Int32) (M : Mm), Sm V C 7 n0 n0 (qI V C) 75 [(0, rv V.1 r0), (1, .int x1), (2, .int x2), (3, .int x3), (4, .int x4), (5, .int x5)] [] M (s_m11_latest_75 k8 r0 x1 x2 x3 x4 x5 M) := by
  intro r0 x1 x2 x3 x4 x5 M
  unfold s_m11_latest_75
  refine Sm.iconst (v := 0) hC d_m11_latest_75 (by decide) ?_
  exact w_m11_latest_76 hC hR k8 hk8 r0 x1 x2 x3 x4 x5 (0 : Int32) M
set_option maxRecDepth 100000 in
set_option maxHeartbeats 4000000 in
theorem w_m11_latest_59 {V : Ev} {C : Cx} {n0 : Nat} (hC : Cok V C y_m11_latest.cls b_m11_latest 7 n0 (some .int) y_m11_latest.name) (hR : cR C = rm_m11_latest) (k8 : Nat → Int32 → Int32 → Int32 → Int32 → Int32 → Mm → Option (Int32 × Mm)) (hk8 : ∀ (r0 : Nat) (x1 : Int32) (x2 : Int32) (x3 : Int32) (x4 : Int32) (x5 : Int32) (M : Mm), Sm V C 7 n0 n0 (qI V C) 8 [(0, rv V.1 r0), (1, .int x1), (2, .int x2), (3, .int x3), (4, .int x4), (5, .int x5)] [] M (k8 r0 x1 x2 x3 x4 x5 M)) : ∀ (r0 : Nat) (x1 : Int32) (x2 : Int32) (x3 : Int32) (x4 : Int32) (x5 : Int32) (M : Mm), Sm V C 7 n0 n0 (qI V C) 59 [(0, rv V.1 r0), (1, .int x1), (2, .int x2), (3, .int x3), (4, .int x4), (5, .int x5)] [] M (s_m11_latest_59 k8 r0 x1 x2 x3 x4 x5 M) := by
  intro r0 x1 x2 x3 x4 x5 M
  unfold s_m11_latest_59
  refine Sm.aload_n hC d_m11_latest_59 rfl 0 rfl ?_
  refine Sm.getR hC fl_m11_37 rfl d_m11_latest_60 (fun v1 => ?_)
  refine Sm.iload hC d_m11_latest_63 5 rfl ?_
  refine Sm.iald hC d_m11_latest_65 (fun v2 => ?_)
  refine Sm.iload hC d_m11_latest_66 4 rfl ?_
  refine Sm.icmp_ne (tgt := 75) hC d_m11_latest_68 (by decide) ?_ ?_
  · exact w_m11_latest_75 hC hR k8 hk8 r0 x1 x2 x3 x4 x5 M
  · refine Sm.iconst (v := 1) hC d_m11_latest_71 (by decide) ?_
    refine Sm.goto (tgt := 76) hC d_m11_latest_72 (by decide) ?_
    exact w_m11_latest_76 hC hR k8 hk8 r0 x1 x2 x3 x4 x5 (1 : Int32) M
set_option maxRecDepth 100000 in
set_option maxHeartbeats 4000000 in
theorem w_m11_latest_8 {V : Ev} {C : Cx} {n0 : Nat} (hC : Cok V C y_m11_latest.cls b_m11_latest 7 n0 (some .int) y_m11_latest.name) (hR : cR C = rm_m11_latest)  : ∀ (n : Nat) (r0 : Nat) (x1 : Int32) (x2 : Int32) (x3 : Int32) (x4 : Int32) (x5 : Int32) (M : Mm), Sm V C 7 n0 n0 (qI V C) 8 [(0, rv V.1 r0), (1, .int x1), (2, .int x2), (3, .int x3), (4, .int x4), (5, .int x5)] [] M (s_m11_latest_8 n r0 x1 x2 x3 x4 x5 M) := by
  intro n
  induction n with
  | zero => exact fun r0 x1 x2 x3 x4 x5 M => Sm.none_
  | succ n ih =>
    intro r0 x1 x2 x3 x4 x5 M
    unfold s_m11_latest_8
    refine Sm.iload hC d_m11_latest_8 5 rfl ?_
    refine Sm.if_lt (tgt := 114) hC d_m11_latest_10 (by decide) ?_ ?_
    · refine Sm.iconst (v := -1) hC d_m11_latest_114 (by decide) ?_
      exact Sm.iret hC d_m11_latest_115 rfl (Nat.sub_self _)
    · refine Sm.iload hC d_m11_latest_13 4 rfl ?_
      refine Sm.iconst (v := -1) hC d_m11_latest_15 (by decide) ?_
      refine Sm.icmp_ne (tgt := 38) hC d_m11_latest_16 (by decide) ?_ ?_
      · refine Sm.aload_n hC d_m11_latest_38 rfl 0 rfl ?_
        refine Sm.getR hC fl_m11_22 rfl d_m11_latest_39 (fun v1 => ?_)
        refine Sm.iload hC d_m11_latest_42 5 rfl ?_
        refine Sm.iald hC d_m11_latest_44 (fun v2 => ?_)
        refine Sm.if_eq (tgt := 59) hC d_m11_latest_45 (by decide) ?_ ?_
        · exact w_m11_latest_59 hC hR (s_m11_latest_8 n) ih r0 x1 x2 x3 x4 x5 M
        · refine Sm.aload_n hC d_m11_latest_48 rfl 0 rfl ?_
          refine Sm.getR hC fl_m11_22 rfl d_m11_latest_49 (fun v3 => ?_)
          refine Sm.iload hC d_m11_latest_52 5 rfl ?_
          refine Sm.iald hC d_m11_latest_54 (fun v4 => ?_)
          refine Sm.iconst (v := 5) hC d_m11_latest_55 (by decide) ?_
          refine Sm.icmp_ne (tgt := 75) hC d_m11_latest_56 (by decide) ?_ ?_
          · exact w_m11_latest_75 hC hR (s_m11_latest_8 n) ih r0 x1 x2 x3 x4 x5 M
          · exact w_m11_latest_59 hC hR (s_m11_latest_8 n) ih r0 x1 x2 x3 x4 x5 M
      · refine Sm.aload_n hC d_m11_latest_19 rfl 0 rfl ?_
        refine Sm.getR hC fl_m11_22 rfl d_m11_latest_20 (fun v5 => ?_)
        refine Sm.iload hC d_m11_latest_23 5 rfl ?_
        refine Sm.iald hC d_m11_latest_25 (fun v6 => ?_)
        refine Sm.iconst (v := 1) hC d_m11_latest_26 (by decide) ?_
        refine Sm.icmp_ne (tgt := 34) hC d_m11_latest_27 (by decide) ?_ ?_
        · refine Sm.iconst (v := 0) hC d_m11_latest_34 (by decide) ?_
          refine Sm.goto (tgt := 76) hC d_m11_latest_35 (by decide) ?_
          exact w_m11_latest_76 hC hR (s_m11_latest_8 n) ih r0 x1 x2 x3 x4 x5 (0 : Int32) M
        · refine Sm.iconst (v := 1) hC d_m11_latest_30 (by decide) ?_
          refine Sm.goto (tgt := 76) hC d_m11_latest_31 (by decide) ?_
          exact w_m11_latest_76 hC hR (s_m11_latest_8 n) ih r0 x1 x2 x3 x4 x5 (1 : Int32) M
set_option maxRecDepth 100000 in
set_option maxHeartbeats 4000000 in
theorem ok_m11_latest {l : Launch} {V : Ev} {M M' : Mm} {r : Int32} {r0 : Nat} {a1 : Int32} {a2 : Int32} {a3 : Int32} {a4 : Int32} (h : s_m11_latest r0 a1 a2 a3 a4 M = some (r, M')) : Met l y_m11_latest (Cond.code y_m11_latest b_m11_latest 7 (some .int) :: TW) rm_m11_latest (va_Pc [rv V.1 r0, .int a1, .int a2, .int a3, .int a4] (Wd V M)) (QC V (some (.int r)) M' 0) 0 0 (Af V) := by
  refine met_of (fun x : Int32 => some (.int x)) (lv0 := [(0, rv V.1 r0), (1, .int a1), (2, .int a2), (3, .int a3), (4, .int a4)]) (by decide) (by simp [lg_sl, cat_rv, cat_i, cat_l, cat_f]) (by simp [lv_args, cat_rv, cat_i, cat_l, cat_f]) (fun C hl hR hC => ?_) h
  subst hl
  generalize mN M = n0 at hC ⊢
  unfold s_m11_latest
  refine Sm.aload_n hC d_m11_latest_0 rfl 0 rfl ?_
  refine Sm.getI hC fl_m11_143 rfl d_m11_latest_1 (fun v1 => ?_)
  refine Sm.iconst (v := 1) hC d_m11_latest_4 (by decide) ?_
  refine Sm.isub hC d_m11_latest_5 ?_
  refine Sm.istore (lv' := [(5, .int (v1 - (1 : Int32))), (0, rv V.1 r0), (1, .int a1), (2, .int a2), (3, .int a3), (4, .int a4)]) hC d_m11_latest_6 (by decide) rfl ?_
  refine Sm.sub [1, 2, 3, 4, 5, 0] rfl ?_
  exact w_m11_latest_8 hC hR FU r0 a1 a2 a3 a4 (v1 - (1 : Int32)) M
/-! NewsWireModel.layAll(III)V -/
theorem fl_m11_279 : FL "NewsWireModel" 279 11 48 0 false .int := ⟨_, _, _, _, rfl, in_c11, ty_c11, nm_c11, by decide, rfl, tw_i 913 (by decide +kernel), rfl, rfl, rfl, rfl⟩
theorem fl_m11_286 : FL "NewsWireModel" 286 11 49 0 false .int := ⟨_, _, _, _, rfl, in_c11, ty_c11, nm_c11, by decide, rfl, tw_i 914 (by decide +kernel), rfl, rfl, rfl, rfl⟩
theorem fl_m11_289 : FL "NewsWireModel" 289 11 47 0 false .int := ⟨_, _, _, _, rfl, in_c11, ty_c11, nm_c11, by decide, rfl, tw_i 912 (by decide +kernel), rfl, rfl, rfl, rfl⟩
abbrev b_m11_layAll : ByteArray := prog_13_method_51_code
def y_m11_layAll : MethodName := ⟨"NewsWireModel", "layAll", "(III)V"⟩
def rm_m11_layAll : Room := { frames := 4, cells := 0, slots := 0, locals := 134 }
theorem cw_m11_layAll : CW y_m11_layAll b_m11_layAll 7 none 3 := ⟨tw_i 66 (by decide +kernel), tw_i 1228 (by decide +kernel), by decide, by decide, by decide +kernel⟩
theorem d_m11_layAll_0 : decode b_m11_layAll 0 = .ok (.aload_n 0, 1) := by decide +kernel
theorem d_m11_layAll_1 : decode b_m11_layAll 1 = .ok (.aload_n 0, 1) := by decide +kernel
theorem d_m11_layAll_2 : decode b_m11_layAll 2 = .ok (.iload_n 1, 1) := by decide +kernel
theorem d_m11_layAll_3 : decode b_m11_layAll 3 = .ok (.iload_n 2, 1) := by decide +kernel
theorem d_m11_layAll_4 : decode b_m11_layAll 4 = .ok (.iload_n 3, 1) := by decide +kernel
theorem d_m11_layAll_5 : decode b_m11_layAll 5 = .ok (.iconst (-1), 1) := by decide +kernel
theorem d_m11_layAll_6 : decode b_m11_layAll 6 = .ok (.invokevirtual 275, 3) := by decide +kernel
theorem d_m11_layAll_9 : decode b_m11_layAll 9 = .ok (.putfield 279, 3) := by decide +kernel
theorem d_m11_layAll_12 : decode b_m11_layAll 12 = .ok (.aload_n 0, 1) := by decide +kernel
theorem d_m11_layAll_13 : decode b_m11_layAll 13 = .ok (.getfield 279, 3) := by decide +kernel
theorem d_m11_layAll_16 : decode b_m11_layAll 16 = .ok (.iconst (-1), 1) := by decide +kernel
theorem d_m11_layAll_17 : decode b_m11_layAll 17 = .ok (.if_icmp .eq 13, 3) := by decide +kernel
theorem d_m11_layAll_20 : decode b_m11_layAll 20 = .ok (.aload_n 0, 1) := by decide +kernel
theorem d_m11_layAll_21 : decode b_m11_layAll 21 = .ok (.aload_n 0, 1) := by decide +kernel
theorem d_m11_layAll_22 : decode b_m11_layAll 22 = .ok (.getfield 279, 3) := by decide +kernel
theorem d_m11_layAll_25 : decode b_m11_layAll 25 = .ok (.iload_n 2, 1) := by decide +kernel
theorem d_m11_layAll_26 : decode b_m11_layAll 26 = .ok (.iload_n 3, 1) := by decide +kernel
theorem d_m11_layAll_27 : decode b_m11_layAll 27 = .ok (.invokevirtual 282, 3) := by decide +kernel
theorem d_m11_layAll_30 : decode b_m11_layAll 30 = .ok (.aload_n 0, 1) := by decide +kernel
theorem d_m11_layAll_31 : decode b_m11_layAll 31 = .ok (.iconst 0, 1) := by decide +kernel
theorem d_m11_layAll_32 : decode b_m11_layAll 32 = .ok (.putfield 286, 3) := by decide +kernel
theorem d_m11_layAll_35 : decode b_m11_layAll 35 = .ok (.aload_n 0, 1) := by decide +kernel
theorem d_m11_layAll_36 : decode b_m11_layAll 36 = .ok (.iconst (-1), 1) := by decide +kernel
theorem d_m11_layAll_37 : decode b_m11_layAll 37 = .ok (.putfield 289, 3) := by decide +kernel
theorem d_m11_layAll_40 : decode b_m11_layAll 40 = .ok (.bipush 8, 2) := by decide +kernel
theorem d_m11_layAll_42 : decode b_m11_layAll 42 = .ok (.istore 4, 2) := by decide +kernel
theorem d_m11_layAll_44 : decode b_m11_layAll 44 = .ok (.iconst 0, 1) := by decide +kernel
theorem d_m11_layAll_45 : decode b_m11_layAll 45 = .ok (.istore 5, 2) := by decide +kernel
theorem d_m11_layAll_47 : decode b_m11_layAll 47 = .ok (.iload 5, 2) := by decide +kernel
theorem d_m11_layAll_49 : decode b_m11_layAll 49 = .ok (.bipush 8, 2) := by decide +kernel
theorem d_m11_layAll_51 : decode b_m11_layAll 51 = .ok (.if_icmp .ge 79, 3) := by decide +kernel
theorem d_m11_layAll_54 : decode b_m11_layAll 54 = .ok (.aload_n 0, 1) := by decide +kernel
theorem d_m11_layAll_55 : decode b_m11_layAll 55 = .ok (.iload_n 1, 1) := by decide +kernel
theorem d_m11_layAll_56 : decode b_m11_layAll 56 = .ok (.iload_n 2, 1) := by decide +kernel
theorem d_m11_layAll_57 : decode b_m11_layAll 57 = .ok (.iload_n 3, 1) := by decide +kernel
theorem d_m11_layAll_58 : decode b_m11_layAll 58 = .ok (.iload 5, 2) := by decide +kernel
theorem d_m11_layAll_60 : decode b_m11_layAll 60 = .ok (.invokevirtual 275, 3) := by decide +kernel
theorem d_m11_layAll_63 : decode b_m11_layAll 63 = .ok (.istore 6, 2) := by decide +kernel
theorem d_m11_layAll_65 : decode b_m11_layAll 65 = .ok (.iload 6, 2) := by decide +kernel
theorem d_m11_layAll_67 : decode b_m11_layAll 67 = .ok (.iconst (-1), 1) := by decide +kernel
theorem d_m11_layAll_68 : decode b_m11_layAll 68 = .ok (.if_icmp .ne 22, 3) := by decide +kernel
theorem d_m11_layAll_71 : decode b_m11_layAll 71 = .ok (.iload 5, 2) := by decide +kernel
theorem d_m11_layAll_73 : decode b_m11_layAll 73 = .ok (.iload 4, 2) := by decide +kernel
theorem d_m11_layAll_75 : decode b_m11_layAll 75 = .ok (.if_icmp .ge 8, 3) := by decide +kernel
theorem d_m11_layAll_78 : decode b_m11_layAll 78 = .ok (.iload 5, 2) := by decide +kernel
theorem d_m11_layAll_80 : decode b_m11_layAll 80 = .ok (.goto 5, 3) := by decide +kernel
theorem d_m11_layAll_83 : decode b_m11_layAll 83 = .ok (.iload 4, 2) := by decide +kernel
theorem d_m11_layAll_85 : decode b_m11_layAll 85 = .ok (.istore 4, 2) := by decide +kernel
theorem d_m11_layAll_87 : decode b_m11_layAll 87 = .ok (.goto 37, 3) := by decide +kernel
theorem d_m11_layAll_90 : decode b_m11_layAll 90 = .ok (.iload 4, 2) := by decide +kernel
theorem d_m11_layAll_92 : decode b_m11_layAll 92 = .ok (.bipush 8, 2) := by decide +kernel
theorem d_m11_layAll_94 : decode b_m11_layAll 94 = .ok (.if_icmp .ne 24, 3) := by decide +kernel
theorem d_m11_layAll_97 : decode b_m11_layAll 97 = .ok (.aload_n 0, 1) := by decide +kernel
theorem d_m11_layAll_98 : decode b_m11_layAll 98 = .ok (.iload 6, 2) := by decide +kernel
theorem d_m11_layAll_100 : decode b_m11_layAll 100 = .ok (.iload_n 2, 1) := by decide +kernel
theorem d_m11_layAll_101 : decode b_m11_layAll 101 = .ok (.iload_n 3, 1) := by decide +kernel
theorem d_m11_layAll_102 : decode b_m11_layAll 102 = .ok (.invokevirtual 282, 3) := by decide +kernel
theorem d_m11_layAll_105 : decode b_m11_layAll 105 = .ok (.aload_n 0, 1) := by decide +kernel
theorem d_m11_layAll_106 : decode b_m11_layAll 106 = .ok (.dup, 1) := by decide +kernel
theorem d_m11_layAll_107 : decode b_m11_layAll 107 = .ok (.getfield 286, 3) := by decide +kernel
theorem d_m11_layAll_110 : decode b_m11_layAll 110 = .ok (.iconst 1, 1) := by decide +kernel
theorem d_m11_layAll_111 : decode b_m11_layAll 111 = .ok (.iadd, 1) := by decide +kernel
theorem d_m11_layAll_112 : decode b_m11_layAll 112 = .ok (.putfield 286, 3) := by decide +kernel
theorem d_m11_layAll_115 : decode b_m11_layAll 115 = .ok (.goto 9, 3) := by decide +kernel
theorem d_m11_layAll_118 : decode b_m11_layAll 118 = .ok (.aload_n 0, 1) := by decide +kernel
theorem d_m11_layAll_119 : decode b_m11_layAll 119 = .ok (.iload 4, 2) := by decide +kernel
theorem d_m11_layAll_121 : decode b_m11_layAll 121 = .ok (.putfield 289, 3) := by decide +kernel
theorem d_m11_layAll_124 : decode b_m11_layAll 124 = .ok (.iinc 5 1, 3) := by decide +kernel
theorem d_m11_layAll_127 : decode b_m11_layAll 127 = .ok (.goto (-80), 3) := by decide +kernel
theorem d_m11_layAll_130 : decode b_m11_layAll 130 = .ok (.return_, 1) := by decide +kernel
def s_m11_layAll_124 (k47 : Nat → Int32 → Int32 → Int32 → Int32 → Int32 → Mm → Option (Unit × Mm)) (r0 : Nat) (x1 : Int32) (x2 : Int32) (x3 : Int32) (x4 : Int32) (x5 : Int32) (M : Mm) : Option (Unit × Mm) := k47 r0 x1 x2 x3 x4 (x5 + 1) M
def s_m11_layAll_85 (k47 : Nat → Int32 → Int32 → Int32 → Int32 → Int32 → Mm → Option (Unit × Mm)) (r0 : Nat) (x1 : Int32) (x2 : Int32) (x3 : Int32) (x5 : Int32) (t0 : Int32) (M : Mm) : Option (Unit × Mm) := s_m11_layAll_124 k47 r0 x1 x2 x3 t0 x5 M
def s_m11_layAll_47  : Nat → Nat → Int32 → Int32 → Int32 → Int32 → Int32 → Mm → Option (Unit × Mm)
  | 0, _, _, _, _, _, _, _ => none
  | n + 1, r0, x1, x2, x3, x4, x5, M => (if (8 : Int32) ≤ x5 then some ((), M) else cl (has M r0 21) (s_m11_latest r0 x1 x2 x3 x5 M) (fun v1 M2 => (if ¬ v1 = (-1 : Int32) then (if ¬ x4 = (8 : Int32) then pI M2 r0 21 47 x4 (fun M3 => s_m11_layAll_124 (s_m11_layAll_47 n) r0 x1 x2 x3 x4 x5 M3) else cl (has M2 r0 21) (s_m11_lay r0 v1 x2 x3 M2) (fun _ M4 => gI M4 r0 21 49 (fun v5 => pI M4 r0 21 49 (v5 + (1 : Int32)) (fun M6 => s_m11_layAll_124 (s_m11_layAll_47 n) r0 x1 x2 x3 x4 x5 M6)))) else (if x4 ≤ x5 then s_m11_layAll_85 (s_m11_layAll_47 n) r0 x1 x2 x3 x5 x4 M2 else s_m11_layAll_85 (s_m11_layAll_47 n) r0 x1 x2 x3 x5 x5 M2))))
def s_m11_layAll_30  (r0 : Nat) (x1 : Int32) (x2 : Int32) (x3 : Int32) (M : Mm) : Option (Unit × Mm) := pI M r0 21 49 (0 : Int32) (fun M1 => pI M1 r0 21 47 (-1 : Int32) (fun M2 => s_m11_layAll_47 FU r0 x1 x2 x3 (8 : Int32) (0 : Int32) M2))
def s_m11_layAll (r0 : Nat) (a1 : Int32) (a2 : Int32) (a3 : Int32) (M : Mm) : Option (Unit × Mm) := cl (has M r0 21) (s_m11_latest r0 a1 a2 a3 (-1 : Int32) M) (fun v1 M2 => pI M2 r0 21 48 v1 (fun M3 => gI M3 r0 21 48 (fun v4 => (if v4 = (-1 : Int32) then s_m11_layAll_30 r0 a1 a2 a3 M3 else gI M3 r0 21 48 (fun v5 => cl (has M3 r0 21) (s_m11_lay r0 v5 a2 a3 M3) (fun _ M6 => s_m11_layAll_30 r0 a1 a2 a3 M6))))))
set_option maxRecDepth 100000 in
set_option maxHeartbeats 4000000 in
theorem w_m11_layAll_124 {V : Ev} {C : Cx} {n0 : Nat} (hC : Cok V C y_m11_layAll.cls b_m11_layAll 7 n0 none y_m11_layAll.name) (hR : cR C = rm_m11_layAll) (k47 : Nat → Int32 → Int32 → Int32 → Int32 → Int32 → Mm → Option (Unit × Mm)) (hk47 : ∀ (r0 : Nat) (x1 : Int32) (x2 : Int32) (x3 : Int32) (x4 : Int32) (x5 : Int32) (M : Mm), Sm V C 7 n0 n0 (qV V C) 47 [(0, rv V.1 r0), (1, .int x1), (2, .int x2), (3, .int x3), (4, .int x4), (5, .int x5)] [] M (k47 r0 x1 x2 x3 x4 x5 M)) : ∀ (r0 : Nat) (x1 : Int32) (x2 : Int32) (x3 : Int32) (x4 : Int32) (x5 : Int32) (M : Mm), Sm V C 7 n0 n0 (qV V C) 124 [(0, rv V.1 r0), (1, .int x1), (2, .int x2), (3, .int x3), (4, .int x4), (5, .int x5)] [] M (s_m11_layAll_124 k47 r0 x1 x2 x3 x4 x5 M) := by
  intro r0 x1 x2 x3 x4 x5 M
  unfold s_m11_layAll_124
  refine Sm.iinc (v := x5 + 1) (lv' := [(5, .int (x5 + 1)), (0, rv V.1 r0), (1, .int x1), (2, .int x2), (3, .int x3), (4, .int x4)]) hC d_m11_layAll_124 5 rfl rfl (by decide) rfl ?_
  refine Sm.goto (tgt := 47) hC d_m11_layAll_127 (by decide) ?_
  refine Sm.sub [1, 2, 3, 4, 5, 0] rfl ?_
  exact hk47 r0 x1 x2 x3 x4 (x5 + 1) M
set_option maxRecDepth 100000 in
set_option maxHeartbeats 4000000 in
theorem w_m11_layAll_85 {V : Ev} {C : Cx} {n0 : Nat} (hC : Cok V C y_m11_layAll.cls b_m11_layAll 7 n0 none y_m11_layAll.name) (hR : cR C = rm_m11_layAll) (k47 : Nat → Int32 → Int32 → Int32 → Int32 → Int32 → Mm → Option (Unit × Mm)) (hk47 : ∀ (r0 : Nat) (x1 : Int32) (x2 : Int32) (x3 : Int32) (x4 : Int32) (x5 : Int32) (M : Mm), Sm V C 7 n0 n0 (qV V C) 47 [(0, rv V.1 r0), (1, .int x1), (2, .int x2), (3, .int x3), (4, .int x4), (5, .int x5)] [] M (k47 r0 x1 x2 x3 x4 x5 M)) : ∀ (r0 : Nat) (x1 : Int32) (x2 : Int32) (x3 : Int32) (x5 : Int32) (t0 : Int32) (M : Mm), Sm V C 7 n0 n0 (qV V C) 85 [(0, rv V.1 r0), (1, .int x1), (2, .int x2), (3, .int x3), (5, .int x5)] [.int t0] M (s_m11_layAll_85 k47 r0 x1 x2 x3 x5 t0 M) := by
  intro r0 x1 x2 x3 x5 t0 M
  unfold s_m11_layAll_85
  refine Sm.istore (lv' := [(4, .int t0), (0, rv V.1 r0), (1, .int x1), (2, .int x2), (3, .int x3), (5, .int x5)]) hC d_m11_layAll_85 (by decide) rfl ?_
  refine Sm.goto (tgt := 124) hC d_m11_layAll_87 (by decide) ?_
  refine Sm.sub [1, 2, 3, 4, 0, 5] rfl ?_
  exact w_m11_layAll_124 hC hR k47 hk47 r0 x1 x2 x3 t0 x5 M
set_option maxRecDepth 100000 in
set_option maxHeartbeats 4000000 in
theorem w_m11_layAll_47 {V : Ev} {C : Cx} {n0 : Nat} (hC : Cok V C y_m11_layAll.cls b_m11_layAll 7 n0 none y_m11_layAll.name) (hR : cR C = rm_m11_layAll)  : ∀ (n : Nat) (r0 : Nat) (x1 : Int32) (x2 : Int32) (x3 : Int32) (x4 : Int32) (x5 : Int32) (M : Mm), Sm V C 7 n0 n0 (qV V C) 47 [(0, rv V.1 r0), (1, .int x1), (2, .int x2), (3, .int x3), (4, .int x4), (5, .int x5)] [] M (s_m11_layAll_47 n r0 x1 x2 x3 x4 x5 M) := by
  intro n
  induction n with
  | zero => exact fun r0 x1 x2 x3 x4 x5 M => Sm.none_
  | succ n ih =>
    intro r0 x1 x2 x3 x4 x5 M
    unfold s_m11_layAll_47
    refine Sm.iload hC d_m11_layAll_47 5 rfl ?_
    refine Sm.bipush (v := 8) hC d_m11_layAll_49 (by decide) ?_
    refine Sm.icmp_ge (tgt := 130) hC d_m11_layAll_51 (by decide) ?_ ?_
    · exact Sm.vret hC d_m11_layAll_130 rfl (Nat.sub_self _)
    · refine Sm.aload_n hC d_m11_layAll_54 rfl 0 rfl ?_
      refine Sm.iload_n hC d_m11_layAll_55 rfl 1 rfl ?_
      refine Sm.iload_n hC d_m11_layAll_56 rfl 2 rfl ?_
      refine Sm.iload_n hC d_m11_layAll_57 rfl 3 rfl ?_
      refine Sm.iload hC d_m11_layAll_58 5 rfl ?_
      refine Sm.callVi 11 (As := [.int x1, .int x2, .int x3, .int x5]) (st := []) hC hR cw_m11_latest (tw_i 1229 (by decide +kernel)) (tw_i 1231 (by decide +kernel)) (tw_i 48 (by decide +kernel)) ⟨_, rfl, rfl⟩ (fun r9 M9 h9 => ok_m11_latest h9) rfl rfl (RW.of ⟨rfl, rfl, by decide, by decide⟩) (by simp) d_m11_layAll_60 (fun v1 M2 => ?_)
      refine Sm.istore (lv' := [(6, .int v1), (0, rv V.1 r0), (1, .int x1), (2, .int x2), (3, .int x3), (4, .int x4), (5, .int x5)]) hC d_m11_layAll_63 (by decide) rfl ?_
      refine Sm.iload hC d_m11_layAll_65 0 rfl ?_
      refine Sm.iconst (v := -1) hC d_m11_layAll_67 (by decide) ?_
      refine Sm.icmp_ne (tgt := 90) hC d_m11_layAll_68 (by decide) ?_ ?_
      · refine Sm.iload hC d_m11_layAll_90 5 rfl ?_
        refine Sm.bipush (v := 8) hC d_m11_layAll_92 (by decide) ?_
        refine Sm.icmp_ne (tgt := 118) hC d_m11_layAll_94 (by decide) ?_ ?_
        · refine Sm.aload_n hC d_m11_layAll_118 rfl 1 rfl ?_
          refine Sm.iload hC d_m11_layAll_119 5 rfl ?_
          refine Sm.putI hC fl_m11_289 rfl d_m11_layAll_121 (fun M3 => ?_)
          refine Sm.sub [1, 2, 3, 4, 5, 6] rfl ?_
          exact w_m11_layAll_124 hC hR (s_m11_layAll_47 n) ih r0 x1 x2 x3 x4 x5 M3
        · refine Sm.aload_n hC d_m11_layAll_97 rfl 1 rfl ?_
          refine Sm.iload hC d_m11_layAll_98 0 rfl ?_
          refine Sm.iload_n hC d_m11_layAll_100 rfl 3 rfl ?_
          refine Sm.iload_n hC d_m11_layAll_101 rfl 4 rfl ?_
          refine Sm.callVv 11 (As := [.int v1, .int x2, .int x3]) (st := []) hC hR cw_m11_lay (tw_i 1241 (by decide +kernel)) (tw_i 1243 (by decide +kernel)) (tw_i 51 (by decide +kernel)) ⟨_, rfl, rfl⟩ (fun r9 M9 h9 => ok_m11_lay h9) rfl rfl (RW.of ⟨rfl, rfl, by decide, by decide⟩) (by simp) d_m11_layAll_102 (fun _ M4 => ?_)
          refine Sm.aload_n hC d_m11_layAll_105 rfl 1 rfl ?_
          refine Sm.dup hC d_m11_layAll_106 (cat_rv _ _) ?_
          refine Sm.getI hC fl_m11_286 rfl d_m11_layAll_107 (fun v5 => ?_)
          refine Sm.iconst (v := 1) hC d_m11_layAll_110 (by decide) ?_
          refine Sm.iadd hC d_m11_layAll_111 ?_
          refine Sm.putI hC fl_m11_286 rfl d_m11_layAll_112 (fun M6 => ?_)
          refine Sm.goto (tgt := 124) hC d_m11_layAll_115 (by decide) ?_
          refine Sm.sub [1, 2, 3, 4, 5, 6] rfl ?_
          exact w_m11_layAll_124 hC hR (s_m11_layAll_47 n) ih r0 x1 x2 x3 x4 x5 M6
      · refine Sm.iload hC d_m11_layAll_71 6 rfl ?_
        refine Sm.iload hC d_m11_layAll_73 5 rfl ?_
        refine Sm.icmp_ge (tgt := 83) hC d_m11_layAll_75 (by decide) ?_ ?_
        · refine Sm.iload hC d_m11_layAll_83 5 rfl ?_
          refine Sm.sub [1, 2, 3, 4, 6] rfl ?_
          exact w_m11_layAll_85 hC hR (s_m11_layAll_47 n) ih r0 x1 x2 x3 x5 x4 M2
        · refine Sm.iload hC d_m11_layAll_78 6 rfl ?_
          refine Sm.goto (tgt := 85) hC d_m11_layAll_80 (by decide) ?_
          refine Sm.sub [1, 2, 3, 4, 6] rfl ?_
          exact w_m11_layAll_85 hC hR (s_m11_layAll_47 n) ih r0 x1 x2 x3 x5 x5 M2
set_option maxRecDepth 100000 in
set_option maxHeartbeats 4000000 in
theorem w_m11_layAll_30 {V : Ev} {C : Cx} {n0 : Nat} (hC : Cok V C y_m11_layAll.cls b_m11_layAll 7 n0 none y_m11_layAll.name) (hR : cR C = rm_m11_layAll)  : ∀ (r0 : Nat) (x1 : Int32) (x2 : Int32) (x3 : Int32) (M : Mm), Sm V C 7 n0 n0 (qV V C) 30 [(0, rv V.1 r0), (1, .int x1), (2, .int x2), (3, .int x3)] [] M (s_m11_layAll_30 r0 x1 x2 x3 M) := by
  intro r0 x1 x2 x3 M
  unfold s_m11_layAll_30
  refine Sm.aload_n hC d_m11_layAll_30 rfl 0 rfl ?_
  refine Sm.iconst (v := 0) hC d_m11_layAll_31 (by decide) ?_
  refine Sm.putI hC fl_m11_286 rfl d_m11_layAll_32 (fun M1 => ?_)
  refine Sm.aload_n hC d_m11_layAll_35 rfl 0 rfl ?_
  refine Sm.iconst (v := -1) hC d_m11_layAll_36 (by decide) ?_
  refine Sm.putI hC fl_m11_289 rfl d_m11_layAll_37 (fun M2 => ?_)
  refine Sm.bipush (v := 8) hC d_m11_layAll_40 (by decide) ?_
  refine Sm.istore (lv' := [(4, .int (8 : Int32)), (0, rv V.1 r0), (1, .int x1), (2, .int x2), (3, .int x3)]) hC d_m11_layAll_42 (by decide) rfl ?_
  refine Sm.iconst (v := 0) hC d_m11_layAll_44 (by decide) ?_
  refine Sm.istore (lv' := [(5, .int (0 : Int32)), (4, .int (8 : Int32)), (0, rv V.1 r0), (1, .int x1), (2, .int x2), (3, .int x3)]) hC d_m11_layAll_45 (by decide) rfl ?_
  refine Sm.sub [2, 3, 4, 5, 1, 0] rfl ?_
  exact w_m11_layAll_47 hC hR FU r0 x1 x2 x3 (8 : Int32) (0 : Int32) M2
set_option maxRecDepth 100000 in
set_option maxHeartbeats 4000000 in
theorem ok_m11_layAll {l : Launch} {V : Ev} {M M' : Mm} {r : Unit} {r0 : Nat} {a1 : Int32} {a2 : Int32} {a3 : Int32} (h : s_m11_layAll r0 a1 a2 a3 M = some (r, M')) : Met l y_m11_layAll (Cond.code y_m11_layAll b_m11_layAll 7 none :: TW) rm_m11_layAll (va_Pc [rv V.1 r0, .int a1, .int a2, .int a3] (Wd V M)) (QC V none M' 0) 0 0 (Af V) := by
  refine met_of (fun _ : Unit => none) (lv0 := [(0, rv V.1 r0), (1, .int a1), (2, .int a2), (3, .int a3)]) (by decide) (by simp [lg_sl, cat_rv, cat_i, cat_l, cat_f]) (by simp [lv_args, cat_rv, cat_i, cat_l, cat_f]) (fun C hl hR hC => ?_) h
  subst hl
  generalize mN M = n0 at hC ⊢
  unfold s_m11_layAll
  refine Sm.aload_n hC d_m11_layAll_0 rfl 0 rfl ?_
  refine Sm.aload_n hC d_m11_layAll_1 rfl 0 rfl ?_
  refine Sm.iload_n hC d_m11_layAll_2 rfl 1 rfl ?_
  refine Sm.iload_n hC d_m11_layAll_3 rfl 2 rfl ?_
  refine Sm.iload_n hC d_m11_layAll_4 rfl 3 rfl ?_
  refine Sm.iconst (v := -1) hC d_m11_layAll_5 (by decide) ?_
  refine Sm.callVi 11 (As := [.int a1, .int a2, .int a3, .int (-1 : Int32)]) (st := [rv V.1 r0]) hC hR cw_m11_latest (tw_i 1229 (by decide +kernel)) (tw_i 1231 (by decide +kernel)) (tw_i 48 (by decide +kernel)) ⟨_, rfl, rfl⟩ (fun r9 M9 h9 => ok_m11_latest h9) rfl rfl (RW.of ⟨rfl, rfl, by decide, by decide⟩) (by simp) d_m11_layAll_6 (fun v1 M2 => ?_)
  refine Sm.putI hC fl_m11_279 rfl d_m11_layAll_9 (fun M3 => ?_)
  refine Sm.aload_n hC d_m11_layAll_12 rfl 0 rfl ?_
  refine Sm.getI hC fl_m11_279 rfl d_m11_layAll_13 (fun v4 => ?_)
  refine Sm.iconst (v := -1) hC d_m11_layAll_16 (by decide) ?_
  refine Sm.icmp_eq (tgt := 30) hC d_m11_layAll_17 (by decide) ?_ ?_
  · exact w_m11_layAll_30 hC hR r0 a1 a2 a3 M3
  · refine Sm.aload_n hC d_m11_layAll_20 rfl 0 rfl ?_
    refine Sm.aload_n hC d_m11_layAll_21 rfl 0 rfl ?_
    refine Sm.getI hC fl_m11_279 rfl d_m11_layAll_22 (fun v5 => ?_)
    refine Sm.iload_n hC d_m11_layAll_25 rfl 2 rfl ?_
    refine Sm.iload_n hC d_m11_layAll_26 rfl 3 rfl ?_
    refine Sm.callVv 11 (As := [.int v5, .int a2, .int a3]) (st := []) hC hR cw_m11_lay (tw_i 1241 (by decide +kernel)) (tw_i 1243 (by decide +kernel)) (tw_i 51 (by decide +kernel)) ⟨_, rfl, rfl⟩ (fun r9 M9 h9 => ok_m11_lay h9) rfl rfl (RW.of ⟨rfl, rfl, by decide, by decide⟩) (by simp) d_m11_layAll_27 (fun _ M6 => ?_)
    exact w_m11_layAll_30 hC hR r0 a1 a2 a3 M6
/-! NewsWireModel.isText(II)Z -/
abbrev b_m11_isText : ByteArray := prog_13_method_52_code
def y_m11_isText : MethodName := ⟨"NewsWireModel", "isText", "(II)Z"⟩
def rm_m11_isText : Room := { frames := 2, cells := 0, slots := 0, locals := 82 }
theorem cw_m11_isText : CW y_m11_isText b_m11_isText 3 (some .boolean) 2 := ⟨tw_i 66 (by decide +kernel), tw_i 1220 (by decide +kernel), by decide, by decide, by decide +kernel⟩
theorem d_m11_isText_0 : decode b_m11_isText 0 = .ok (.iload_n 1, 1) := by decide +kernel
theorem d_m11_isText_1 : decode b_m11_isText 1 = .ok (.ifCond .lt 37, 3) := by decide +kernel
theorem d_m11_isText_4 : decode b_m11_isText 4 = .ok (.iload_n 1, 1) := by decide +kernel
theorem d_m11_isText_5 : decode b_m11_isText 5 = .ok (.bipush 10, 2) := by decide +kernel
theorem d_m11_isText_7 : decode b_m11_isText 7 = .ok (.idiv, 1) := by decide +kernel
theorem d_m11_isText_8 : decode b_m11_isText 8 = .ok (.bipush 8, 2) := by decide +kernel
theorem d_m11_isText_10 : decode b_m11_isText 10 = .ok (.if_icmp .ge 28, 3) := by decide +kernel
theorem d_m11_isText_13 : decode b_m11_isText 13 = .ok (.iload_n 1, 1) := by decide +kernel
theorem d_m11_isText_14 : decode b_m11_isText 14 = .ok (.bipush 10, 2) := by decide +kernel
theorem d_m11_isText_16 : decode b_m11_isText 16 = .ok (.irem, 1) := by decide +kernel
theorem d_m11_isText_17 : decode b_m11_isText 17 = .ok (.bipush 8, 2) := by decide +kernel
theorem d_m11_isText_19 : decode b_m11_isText 19 = .ok (.if_icmp .ge 19, 3) := by decide +kernel
theorem d_m11_isText_22 : decode b_m11_isText 22 = .ok (.iload_n 2, 1) := by decide +kernel
theorem d_m11_isText_23 : decode b_m11_isText 23 = .ok (.iconst 0, 1) := by decide +kernel
theorem d_m11_isText_24 : decode b_m11_isText 24 = .ok (.aload_n 0, 1) := by decide +kernel
theorem d_m11_isText_25 : decode b_m11_isText 25 = .ok (.getfield 211, 3) := by decide +kernel
theorem d_m11_isText_28 : decode b_m11_isText 28 = .ok (.invokestatic 135, 3) := by decide +kernel
theorem d_m11_isText_31 : decode b_m11_isText 31 = .ok (.ifCond .eq 7, 3) := by decide +kernel
theorem d_m11_isText_34 : decode b_m11_isText 34 = .ok (.iconst 1, 1) := by decide +kernel
theorem d_m11_isText_35 : decode b_m11_isText 35 = .ok (.goto 4, 3) := by decide +kernel
theorem d_m11_isText_38 : decode b_m11_isText 38 = .ok (.iconst 0, 1) := by decide +kernel
theorem d_m11_isText_39 : decode b_m11_isText 39 = .ok (.ireturn, 1) := by decide +kernel
def s_m11_isText_39  (t0 : Int32) (M : Mm) : Option (Int32 × Mm) := rz t0 (some (t0, M))
def s_m11_isText_38   (M : Mm) : Option (Int32 × Mm) := s_m11_isText_39 (0 : Int32) M
def s_m11_isText (r0 : Nat) (a1 : Int32) (a2 : Int32) (M : Mm) : Option (Int32 × Mm) := (if a1 < 0 then s_m11_isText_38 M else dz (10 : Int32) ((if (8 : Int32) ≤ (a1 / (10 : Int32)) then s_m11_isText_38 M else dz (10 : Int32) ((if (8 : Int32) ≤ (a1 - a1 / (10 : Int32) * (10 : Int32)) then s_m11_isText_38 M else gI M r0 21 31 (fun v1 => cl true (s_m11_in a2 (0 : Int32) v1 M) (fun v2 M3 => (if v2 = 0 then s_m11_isText_38 M3 else s_m11_isText_39 (1 : Int32) M3))))))))
set_option maxRecDepth 100000 in
set_option maxHeartbeats 4000000 in
theorem w_m11_isText_39 {V : Ev} {C : Cx} {n0 : Nat} (hC : Cok V C y_m11_isText.cls b_m11_isText 3 n0 (some .boolean) y_m11_isText.name) (hR : cR C = rm_m11_isText)  : ∀ (t0 : Int32) (M : Mm), Sm V C 3 n0 n0 (qI V C) 39 [] [.int t0] M (s_m11_isText_39 t0 M) := by
  intro t0 M
  unfold s_m11_isText_39
  exact Sm.zret hC d_m11_isText_39 rfl (Nat.sub_self _)
set_option maxRecDepth 100000 in
set_option maxHeartbeats 4000000 in
theorem w_m11_isText_38 {V : Ev} {C : Cx} {n0 : Nat} (hC : Cok V C y_m11_isText.cls b_m11_isText 3 n0 (some .boolean) y_m11_isText.name) (hR : cR C = rm_m11_isText)  : ∀  (M : Mm), Sm V C 3 n0 n0 (qI V C) 38 [] [] M (s_m11_isText_38 M) := by
  intro M
  unfold s_m11_isText_38
  refine Sm.iconst (v := 0) hC d_m11_isText_38 (by decide) ?_
  exact w_m11_isText_39 hC hR (0 : Int32) M
set_option maxRecDepth 100000 in
set_option maxHeartbeats 4000000 in
theorem ok_m11_isText {l : Launch} {V : Ev} {M M' : Mm} {r : Int32} {r0 : Nat} {a1 : Int32} {a2 : Int32} (h : s_m11_isText r0 a1 a2 M = some (r, M')) : Met l y_m11_isText (Cond.code y_m11_isText b_m11_isText 3 (some .boolean) :: TW) rm_m11_isText (va_Pc [rv V.1 r0, .int a1, .int a2] (Wd V M)) (QC V (some (.int r)) M' 0) 0 0 (Af V) := by
  refine met_of (fun x : Int32 => some (.int x)) (lv0 := [(0, rv V.1 r0), (1, .int a1), (2, .int a2)]) (by decide) (by simp [lg_sl, cat_rv, cat_i, cat_l, cat_f]) (by simp [lv_args, cat_rv, cat_i, cat_l, cat_f]) (fun C hl hR hC => ?_) h
  subst hl
  generalize mN M = n0 at hC ⊢
  unfold s_m11_isText
  refine Sm.iload_n hC d_m11_isText_0 rfl 1 rfl ?_
  refine Sm.if_lt (tgt := 38) hC d_m11_isText_1 (by decide) ?_ ?_
  · refine Sm.sub [] rfl ?_
    exact w_m11_isText_38 hC hR M
  · refine Sm.iload_n hC d_m11_isText_4 rfl 1 rfl ?_
    refine Sm.bipush (v := 10) hC d_m11_isText_5 (by decide) ?_
    refine Sm.idiv hC d_m11_isText_7 ?_
    refine Sm.bipush (v := 8) hC d_m11_isText_8 (by decide) ?_
    refine Sm.icmp_ge (tgt := 38) hC d_m11_isText_10 (by decide) ?_ ?_
    · refine Sm.sub [] rfl ?_
      exact w_m11_isText_38 hC hR M
    · refine Sm.iload_n hC d_m11_isText_13 rfl 1 rfl ?_
      refine Sm.bipush (v := 10) hC d_m11_isText_14 (by decide) ?_
      refine Sm.irem hC d_m11_isText_16 ?_
      refine Sm.bipush (v := 8) hC d_m11_isText_17 (by decide) ?_
      refine Sm.icmp_ge (tgt := 38) hC d_m11_isText_19 (by decide) ?_ ?_
      · refine Sm.sub [] rfl ?_
        exact w_m11_isText_38 hC hR M
      · refine Sm.iload_n hC d_m11_isText_22 rfl 2 rfl ?_
        refine Sm.iconst (v := 0) hC d_m11_isText_23 (by decide) ?_
        refine Sm.aload_n hC d_m11_isText_24 rfl 0 rfl ?_
        refine Sm.getI hC fl_m11_211 rfl d_m11_isText_25 (fun v1 => ?_)
        refine Sm.callSi (As := [.int a2, .int (0 : Int32), .int v1]) (st := []) hC hR cw_m11_in (tw_i 1045 (by decide +kernel)) (tw_i 1046 (by decide +kernel)) (fun r9 M9 h9 => ok_m11_in h9) rfl rfl (RW.of ⟨rfl, rfl, by decide, by decide⟩) (by simp) d_m11_isText_28 (fun v2 M3 => ?_)
        refine Sm.if_eq (tgt := 38) hC d_m11_isText_31 (by decide) ?_ ?_
        · refine Sm.sub [] rfl ?_
          exact w_m11_isText_38 hC hR M3
        · refine Sm.iconst (v := 1) hC d_m11_isText_34 (by decide) ?_
          refine Sm.goto (tgt := 39) hC d_m11_isText_35 (by decide) ?_
          refine Sm.sub [] rfl ?_
          exact w_m11_isText_39 hC hR (1 : Int32) M3
/-! NewsWireModel.make(II)V -/
abbrev b_m11_make : ByteArray := prog_13_method_53_code
def y_m11_make : MethodName := ⟨"NewsWireModel", "make", "(II)V"⟩
def rm_m11_make : Room := { frames := 5, cells := 0, slots := 0, locals := 160 }
theorem cw_m11_make : CW y_m11_make b_m11_make 3 none 2 := ⟨tw_i 66 (by decide +kernel), tw_i 1224 (by decide +kernel), by decide, by decide, by decide +kernel⟩
theorem d_m11_make_0 : decode b_m11_make 0 = .ok (.aload_n 0, 1) := by decide +kernel
theorem d_m11_make_1 : decode b_m11_make 1 = .ok (.iconst 0, 1) := by decide +kernel
theorem d_m11_make_2 : decode b_m11_make 2 = .ok (.putfield 266, 3) := by decide +kernel
theorem d_m11_make_5 : decode b_m11_make 5 = .ok (.aload_n 0, 1) := by decide +kernel
theorem d_m11_make_6 : decode b_m11_make 6 = .ok (.iload_n 1, 1) := by decide +kernel
theorem d_m11_make_7 : decode b_m11_make 7 = .ok (.bipush 10, 2) := by decide +kernel
theorem d_m11_make_9 : decode b_m11_make 9 = .ok (.idiv, 1) := by decide +kernel
theorem d_m11_make_10 : decode b_m11_make 10 = .ok (.iload_n 1, 1) := by decide +kernel
theorem d_m11_make_11 : decode b_m11_make 11 = .ok (.bipush 10, 2) := by decide +kernel
theorem d_m11_make_13 : decode b_m11_make 13 = .ok (.irem, 1) := by decide +kernel
theorem d_m11_make_14 : decode b_m11_make 14 = .ok (.iload_n 2, 1) := by decide +kernel
theorem d_m11_make_15 : decode b_m11_make 15 = .ok (.invokevirtual 292, 3) := by decide +kernel
theorem d_m11_make_18 : decode b_m11_make 18 = .ok (.return_, 1) := by decide +kernel
def s_m11_make (r0 : Nat) (a1 : Int32) (a2 : Int32) (M : Mm) : Option (Unit × Mm) := pI M r0 21 46 (0 : Int32) (fun M1 => dz (10 : Int32) (dz (10 : Int32) (cl (has M1 r0 21) (s_m11_layAll r0 (a1 / (10 : Int32)) (a1 - a1 / (10 : Int32) * (10 : Int32)) a2 M1) (fun _ M2 => some ((), M2)))))
set_option maxRecDepth 100000 in
set_option maxHeartbeats 4000000 in
theorem ok_m11_make {l : Launch} {V : Ev} {M M' : Mm} {r : Unit} {r0 : Nat} {a1 : Int32} {a2 : Int32} (h : s_m11_make r0 a1 a2 M = some (r, M')) : Met l y_m11_make (Cond.code y_m11_make b_m11_make 3 none :: TW) rm_m11_make (va_Pc [rv V.1 r0, .int a1, .int a2] (Wd V M)) (QC V none M' 0) 0 0 (Af V) := by
  refine met_of (fun _ : Unit => none) (lv0 := [(0, rv V.1 r0), (1, .int a1), (2, .int a2)]) (by decide) (by simp [lg_sl, cat_rv, cat_i, cat_l, cat_f]) (by simp [lv_args, cat_rv, cat_i, cat_l, cat_f]) (fun C hl hR hC => ?_) h
  subst hl
  generalize mN M = n0 at hC ⊢
  unfold s_m11_make
  refine Sm.aload_n hC d_m11_make_0 rfl 0 rfl ?_
  refine Sm.iconst (v := 0) hC d_m11_make_1 (by decide) ?_
  refine Sm.putI hC fl_m11_266 rfl d_m11_make_2 (fun M1 => ?_)
  refine Sm.aload_n hC d_m11_make_5 rfl 0 rfl ?_
  refine Sm.iload_n hC d_m11_make_6 rfl 1 rfl ?_
  refine Sm.bipush (v := 10) hC d_m11_make_7 (by decide) ?_
  refine Sm.idiv hC d_m11_make_9 ?_
  refine Sm.iload_n hC d_m11_make_10 rfl 1 rfl ?_
  refine Sm.bipush (v := 10) hC d_m11_make_11 (by decide) ?_
  refine Sm.irem hC d_m11_make_13 ?_
  refine Sm.iload_n hC d_m11_make_14 rfl 2 rfl ?_
  refine Sm.callVv 11 (As := [.int (a1 / (10 : Int32)), .int (a1 - a1 / (10 : Int32) * (10 : Int32)), .int a2]) (st := []) hC hR cw_m11_layAll (tw_i 1225 (by decide +kernel)) (tw_i 1227 (by decide +kernel)) (tw_i 47 (by decide +kernel)) ⟨_, rfl, rfl⟩ (fun r9 M9 h9 => ok_m11_layAll h9) rfl rfl (RW.of ⟨rfl, rfl, by decide, by decide⟩) (by simp) d_m11_make_15 (fun _ M2 => ?_)
  exact Sm.vret hC d_m11_make_18 rfl (Nat.sub_self _)
/-! NewsWireModel.text(III)I -/
abbrev b_m11_text : ByteArray := prog_13_method_54_code
def y_m11_text : MethodName := ⟨"NewsWireModel", "text", "(III)I"⟩
def rm_m11_text : Room := { frames := 6, cells := 0, slots := 0, locals := 182 }
theorem cw_m11_text : CW y_m11_text b_m11_text 4 (some .int) 3 := ⟨tw_i 66 (by decide +kernel), tw_i 1216 (by decide +kernel), by decide, by decide, by decide +kernel⟩
theorem d_m11_text_0 : decode b_m11_text 0 = .ok (.aload_n 0, 1) := by decide +kernel
theorem d_m11_text_1 : decode b_m11_text 1 = .ok (.iload_n 1, 1) := by decide +kernel
theorem d_m11_text_2 : decode b_m11_text 2 = .ok (.iload_n 2, 1) := by decide +kernel
theorem d_m11_text_3 : decode b_m11_text 3 = .ok (.invokevirtual 295, 3) := by decide +kernel
theorem d_m11_text_6 : decode b_m11_text 6 = .ok (.ifCond .ne 10, 3) := by decide +kernel
theorem d_m11_text_9 : decode b_m11_text 9 = .ok (.aload_n 0, 1) := by decide +kernel
theorem d_m11_text_10 : decode b_m11_text 10 = .ok (.bipush (-3), 2) := by decide +kernel
theorem d_m11_text_12 : decode b_m11_text 12 = .ok (.invokevirtual 139, 3) := by decide +kernel
theorem d_m11_text_15 : decode b_m11_text 15 = .ok (.ireturn, 1) := by decide +kernel
theorem d_m11_text_16 : decode b_m11_text 16 = .ok (.iload_n 3, 1) := by decide +kernel
theorem d_m11_text_17 : decode b_m11_text 17 = .ok (.iconst 0, 1) := by decide +kernel
theorem d_m11_text_18 : decode b_m11_text 18 = .ok (.iconst 3, 1) := by decide +kernel
theorem d_m11_text_19 : decode b_m11_text 19 = .ok (.invokestatic 135, 3) := by decide +kernel
theorem d_m11_text_22 : decode b_m11_text 22 = .ok (.ifCond .ne 10, 3) := by decide +kernel
theorem d_m11_text_25 : decode b_m11_text 25 = .ok (.aload_n 0, 1) := by decide +kernel
theorem d_m11_text_26 : decode b_m11_text 26 = .ok (.bipush (-7), 2) := by decide +kernel
theorem d_m11_text_28 : decode b_m11_text 28 = .ok (.invokevirtual 139, 3) := by decide +kernel
theorem d_m11_text_31 : decode b_m11_text 31 = .ok (.ireturn, 1) := by decide +kernel
theorem d_m11_text_32 : decode b_m11_text 32 = .ok (.aload_n 0, 1) := by decide +kernel
theorem d_m11_text_33 : decode b_m11_text 33 = .ok (.iload_n 1, 1) := by decide +kernel
theorem d_m11_text_34 : decode b_m11_text 34 = .ok (.iload_n 2, 1) := by decide +kernel
theorem d_m11_text_35 : decode b_m11_text 35 = .ok (.invokevirtual 298, 3) := by decide +kernel
theorem d_m11_text_38 : decode b_m11_text 38 = .ok (.iload_n 3, 1) := by decide +kernel
theorem d_m11_text_39 : decode b_m11_text 39 = .ok (.ifCond .ne 10, 3) := by decide +kernel
theorem d_m11_text_42 : decode b_m11_text 42 = .ok (.aload_n 0, 1) := by decide +kernel
theorem d_m11_text_43 : decode b_m11_text 43 = .ok (.getfield 266, 3) := by decide +kernel
theorem d_m11_text_46 : decode b_m11_text 46 = .ok (.goto 31, 3) := by decide +kernel
theorem d_m11_text_49 : decode b_m11_text 49 = .ok (.iload_n 3, 1) := by decide +kernel
theorem d_m11_text_50 : decode b_m11_text 50 = .ok (.iconst 1, 1) := by decide +kernel
theorem d_m11_text_51 : decode b_m11_text 51 = .ok (.if_icmp .ne 10, 3) := by decide +kernel
theorem d_m11_text_54 : decode b_m11_text 54 = .ok (.aload_n 0, 1) := by decide +kernel
theorem d_m11_text_55 : decode b_m11_text 55 = .ok (.getfield 289, 3) := by decide +kernel
theorem d_m11_text_58 : decode b_m11_text 58 = .ok (.goto 19, 3) := by decide +kernel
theorem d_m11_text_61 : decode b_m11_text 61 = .ok (.iload_n 3, 1) := by decide +kernel
theorem d_m11_text_62 : decode b_m11_text 62 = .ok (.iconst 2, 1) := by decide +kernel
theorem d_m11_text_63 : decode b_m11_text 63 = .ok (.if_icmp .ne 10, 3) := by decide +kernel
theorem d_m11_text_66 : decode b_m11_text 66 = .ok (.aload_n 0, 1) := by decide +kernel
theorem d_m11_text_67 : decode b_m11_text 67 = .ok (.getfield 279, 3) := by decide +kernel
theorem d_m11_text_70 : decode b_m11_text 70 = .ok (.goto 7, 3) := by decide +kernel
theorem d_m11_text_73 : decode b_m11_text 73 = .ok (.aload_n 0, 1) := by decide +kernel
theorem d_m11_text_74 : decode b_m11_text 74 = .ok (.getfield 286, 3) := by decide +kernel
theorem d_m11_text_77 : decode b_m11_text 77 = .ok (.ireturn, 1) := by decide +kernel
def s_m11_text_77  (t0 : Int32) (M : Mm) : Option (Int32 × Mm) := some (t0, M)
def s_m11_text (r0 : Nat) (a1 : Int32) (a2 : Int32) (a3 : Int32) (M : Mm) : Option (Int32 × Mm) := cl (has M r0 21) (s_m11_isText r0 a1 a2 M) (fun v1 M2 => (if ¬ v1 = 0 then cl true (s_m11_in a3 (0 : Int32) (3 : Int32) M2) (fun v3 M4 => (if ¬ v3 = 0 then cl (has M4 r0 21) (s_m11_make r0 a1 a2 M4) (fun _ M5 => (if ¬ a3 = 0 then (if ¬ a3 = (1 : Int32) then (if ¬ a3 = (2 : Int32) then gI M5 r0 21 49 (fun v6 => s_m11_text_77 v6 M5) else gI M5 r0 21 48 (fun v7 => s_m11_text_77 v7 M5)) else gI M5 r0 21 47 (fun v8 => s_m11_text_77 v8 M5)) else gI M5 r0 21 46 (fun v9 => s_m11_text_77 v9 M5))) else cl (has M4 r0 21) (s_m11_refused r0 (-7 : Int32) M4) (fun v10 M11 => some (v10, M11)))) else cl (has M2 r0 21) (s_m11_refused r0 (-3 : Int32) M2) (fun v12 M13 => some (v12, M13))))
set_option maxRecDepth 100000 in
set_option maxHeartbeats 4000000 in
theorem w_m11_text_77 {V : Ev} {C : Cx} {n0 : Nat} (hC : Cok V C y_m11_text.cls b_m11_text 4 n0 (some .int) y_m11_text.name) (hR : cR C = rm_m11_text)  : ∀ (t0 : Int32) (M : Mm), Sm V C 4 n0 n0 (qI V C) 77 [] [.int t0] M (s_m11_text_77 t0 M) := by
  intro t0 M
  unfold s_m11_text_77
  exact Sm.iret hC d_m11_text_77 rfl (Nat.sub_self _)
set_option maxRecDepth 100000 in
set_option maxHeartbeats 4000000 in
theorem ok_m11_text {l : Launch} {V : Ev} {M M' : Mm} {r : Int32} {r0 : Nat} {a1 : Int32} {a2 : Int32} {a3 : Int32} (h : s_m11_text r0 a1 a2 a3 M = some (r, M')) : Met l y_m11_text (Cond.code y_m11_text b_m11_text 4 (some .int) :: TW) rm_m11_text (va_Pc [rv V.1 r0, .int a1, .int a2, .int a3] (Wd V M)) (QC V (some (.int r)) M' 0) 0 0 (Af V) := by
  refine met_of (fun x : Int32 => some (.int x)) (lv0 := [(0, rv V.1 r0), (1, .int a1), (2, .int a2), (3, .int a3)]) (by decide) (by simp [lg_sl, cat_rv, cat_i, cat_l, cat_f]) (by simp [lv_args, cat_rv, cat_i, cat_l, cat_f]) (fun C hl hR hC => ?_) h
  subst hl
  generalize mN M = n0 at hC ⊢
  unfold s_m11_text
  refine Sm.aload_n hC d_m11_text_0 rfl 0 rfl ?_
  refine Sm.iload_n hC d_m11_text_1 rfl 1 rfl ?_
  refine Sm.iload_n hC d_m11_text_2 rfl 2 rfl ?_
  refine Sm.callVi 11 (As := [.int a1, .int a2]) (st := []) hC hR cw_m11_isText (tw_i 1217 (by decide +kernel)) (tw_i 1219 (by decide +kernel)) (tw_i 45 (by decide +kernel)) ⟨_, rfl, rfl⟩ (fun r9 M9 h9 => ok_m11_isText h9) rfl rfl (RW.of ⟨rfl, rfl, by decide, by decide⟩) (by simp) d_m11_text_3 (fun v1 M2 => ?_)
  refine Sm.if_ne (tgt := 16) hC d_m11_text_6 (by decide) ?_ ?_
  · refine Sm.iload_n hC d_m11_text_16 rfl 3 rfl ?_
    refine Sm.iconst (v := 0) hC d_m11_text_17 (by decide) ?_
    refine Sm.iconst (v := 3) hC d_m11_text_18 (by decide) ?_
    refine Sm.callSi (As := [.int a3, .int (0 : Int32), .int (3 : Int32)]) (st := []) hC hR cw_m11_in (tw_i 1045 (by decide +kernel)) (tw_i 1046 (by decide +kernel)) (fun r9 M9 h9 => ok_m11_in h9) rfl rfl (RW.of ⟨rfl, rfl, by decide, by decide⟩) (by simp) d_m11_text_19 (fun v3 M4 => ?_)
    refine Sm.if_ne (tgt := 32) hC d_m11_text_22 (by decide) ?_ ?_
    · refine Sm.aload_n hC d_m11_text_32 rfl 0 rfl ?_
      refine Sm.iload_n hC d_m11_text_33 rfl 1 rfl ?_
      refine Sm.iload_n hC d_m11_text_34 rfl 2 rfl ?_
      refine Sm.callVv 11 (As := [.int a1, .int a2]) (st := []) hC hR cw_m11_make (tw_i 1221 (by decide +kernel)) (tw_i 1223 (by decide +kernel)) (tw_i 46 (by decide +kernel)) ⟨_, rfl, rfl⟩ (fun r9 M9 h9 => ok_m11_make h9) rfl rfl (RW.of ⟨rfl, rfl, by decide, by decide⟩) (by simp) d_m11_text_35 (fun _ M5 => ?_)
      refine Sm.iload_n hC d_m11_text_38 rfl 3 rfl ?_
      refine Sm.if_ne (tgt := 49) hC d_m11_text_39 (by decide) ?_ ?_
      · refine Sm.iload_n hC d_m11_text_49 rfl 3 rfl ?_
        refine Sm.iconst (v := 1) hC d_m11_text_50 (by decide) ?_
        refine Sm.icmp_ne (tgt := 61) hC d_m11_text_51 (by decide) ?_ ?_
        · refine Sm.iload_n hC d_m11_text_61 rfl 3 rfl ?_
          refine Sm.iconst (v := 2) hC d_m11_text_62 (by decide) ?_
          refine Sm.icmp_ne (tgt := 73) hC d_m11_text_63 (by decide) ?_ ?_
          · refine Sm.aload_n hC d_m11_text_73 rfl 0 rfl ?_
            refine Sm.getI hC fl_m11_286 rfl d_m11_text_74 (fun v6 => ?_)
            refine Sm.sub [] rfl ?_
            exact w_m11_text_77 hC hR v6 M5
          · refine Sm.aload_n hC d_m11_text_66 rfl 0 rfl ?_
            refine Sm.getI hC fl_m11_279 rfl d_m11_text_67 (fun v7 => ?_)
            refine Sm.goto (tgt := 77) hC d_m11_text_70 (by decide) ?_
            refine Sm.sub [] rfl ?_
            exact w_m11_text_77 hC hR v7 M5
        · refine Sm.aload_n hC d_m11_text_54 rfl 0 rfl ?_
          refine Sm.getI hC fl_m11_289 rfl d_m11_text_55 (fun v8 => ?_)
          refine Sm.goto (tgt := 77) hC d_m11_text_58 (by decide) ?_
          refine Sm.sub [] rfl ?_
          exact w_m11_text_77 hC hR v8 M5
      · refine Sm.aload_n hC d_m11_text_42 rfl 0 rfl ?_
        refine Sm.getI hC fl_m11_266 rfl d_m11_text_43 (fun v9 => ?_)
        refine Sm.goto (tgt := 77) hC d_m11_text_46 (by decide) ?_
        refine Sm.sub [] rfl ?_
        exact w_m11_text_77 hC hR v9 M5
    · refine Sm.aload_n hC d_m11_text_25 rfl 0 rfl ?_
      refine Sm.bipush (v := -7) hC d_m11_text_26 (by decide) ?_
      refine Sm.callVi 11 (As := [.int (-7 : Int32)]) (st := []) hC hR cw_m11_refused (tw_i 1048 (by decide +kernel)) (tw_i 1050 (by decide +kernel)) (tw_i 23 (by decide +kernel)) ⟨_, rfl, rfl⟩ (fun r9 M9 h9 => ok_m11_refused h9) rfl rfl (RW.of ⟨rfl, rfl, by decide, by decide⟩) (by simp) d_m11_text_28 (fun v10 M11 => ?_)
      exact Sm.iret hC d_m11_text_31 rfl (Nat.sub_self _)
  · refine Sm.aload_n hC d_m11_text_9 rfl 0 rfl ?_
    refine Sm.bipush (v := -3) hC d_m11_text_10 (by decide) ?_
    refine Sm.callVi 11 (As := [.int (-3 : Int32)]) (st := []) hC hR cw_m11_refused (tw_i 1048 (by decide +kernel)) (tw_i 1050 (by decide +kernel)) (tw_i 23 (by decide +kernel)) ⟨_, rfl, rfl⟩ (fun r9 M9 h9 => ok_m11_refused h9) rfl rfl (RW.of ⟨rfl, rfl, by decide, by decide⟩) (by simp) d_m11_text_12 (fun v12 M13 => ?_)
    exact Sm.iret hC d_m11_text_15 rfl (Nat.sub_self _)
/-! NewsWireModel.read(III)I -/
abbrev b_m11_read : ByteArray := prog_13_method_55_code
def y_m11_read : MethodName := ⟨"NewsWireModel", "read", "(III)I"⟩
def rm_m11_read : Room := { frames := 6, cells := 0, slots := 0, locals := 182 }
theorem cw_m11_read : CW y_m11_read b_m11_read 4 (some .int) 3 := ⟨tw_i 66 (by decide +kernel), tw_i 1252 (by decide +kernel), by decide, by decide, by decide +kernel⟩
theorem d_m11_read_0 : decode b_m11_read 0 = .ok (.aload_n 0, 1) := by decide +kernel
theorem d_m11_read_1 : decode b_m11_read 1 = .ok (.iload_n 1, 1) := by decide +kernel
theorem d_m11_read_2 : decode b_m11_read 2 = .ok (.iload_n 2, 1) := by decide +kernel
theorem d_m11_read_3 : decode b_m11_read 3 = .ok (.invokevirtual 295, 3) := by decide +kernel
theorem d_m11_read_6 : decode b_m11_read 6 = .ok (.ifCond .ne 10, 3) := by decide +kernel
theorem d_m11_read_9 : decode b_m11_read 9 = .ok (.aload_n 0, 1) := by decide +kernel
theorem d_m11_read_10 : decode b_m11_read 10 = .ok (.bipush (-3), 2) := by decide +kernel
theorem d_m11_read_12 : decode b_m11_read 12 = .ok (.invokevirtual 139, 3) := by decide +kernel
theorem d_m11_read_15 : decode b_m11_read 15 = .ok (.ireturn, 1) := by decide +kernel
theorem d_m11_read_16 : decode b_m11_read 16 = .ok (.aload_n 0, 1) := by decide +kernel
theorem d_m11_read_17 : decode b_m11_read 17 = .ok (.iload_n 1, 1) := by decide +kernel
theorem d_m11_read_18 : decode b_m11_read 18 = .ok (.iload_n 2, 1) := by decide +kernel
theorem d_m11_read_19 : decode b_m11_read 19 = .ok (.invokevirtual 298, 3) := by decide +kernel
theorem d_m11_read_22 : decode b_m11_read 22 = .ok (.iload_n 3, 1) := by decide +kernel
theorem d_m11_read_23 : decode b_m11_read 23 = .ok (.iconst 0, 1) := by decide +kernel
theorem d_m11_read_24 : decode b_m11_read 24 = .ok (.aload_n 0, 1) := by decide +kernel
theorem d_m11_read_25 : decode b_m11_read 25 = .ok (.getfield 266, 3) := by decide +kernel
theorem d_m11_read_28 : decode b_m11_read 28 = .ok (.iconst 1, 1) := by decide +kernel
theorem d_m11_read_29 : decode b_m11_read 29 = .ok (.isub, 1) := by decide +kernel
theorem d_m11_read_30 : decode b_m11_read 30 = .ok (.invokestatic 135, 3) := by decide +kernel
theorem d_m11_read_33 : decode b_m11_read 33 = .ok (.ifCond .eq 12, 3) := by decide +kernel
theorem d_m11_read_36 : decode b_m11_read 36 = .ok (.aload_n 0, 1) := by decide +kernel
theorem d_m11_read_37 : decode b_m11_read 37 = .ok (.getfield 103, 3) := by decide +kernel
theorem d_m11_read_40 : decode b_m11_read 40 = .ok (.iload_n 3, 1) := by decide +kernel
theorem d_m11_read_41 : decode b_m11_read 41 = .ok (.iaload, 1) := by decide +kernel
theorem d_m11_read_42 : decode b_m11_read 42 = .ok (.goto 9, 3) := by decide +kernel
theorem d_m11_read_45 : decode b_m11_read 45 = .ok (.aload_n 0, 1) := by decide +kernel
theorem d_m11_read_46 : decode b_m11_read 46 = .ok (.bipush (-3), 2) := by decide +kernel
theorem d_m11_read_48 : decode b_m11_read 48 = .ok (.invokevirtual 139, 3) := by decide +kernel
theorem d_m11_read_51 : decode b_m11_read 51 = .ok (.ireturn, 1) := by decide +kernel
def s_m11_read_51  (t0 : Int32) (M : Mm) : Option (Int32 × Mm) := some (t0, M)
def s_m11_read (r0 : Nat) (a1 : Int32) (a2 : Int32) (a3 : Int32) (M : Mm) : Option (Int32 × Mm) := cl (has M r0 21) (s_m11_isText r0 a1 a2 M) (fun v1 M2 => (if ¬ v1 = 0 then cl (has M2 r0 21) (s_m11_make r0 a1 a2 M2) (fun _ M3 => gI M3 r0 21 46 (fun v4 => cl true (s_m11_in a3 (0 : Int32) (v4 - (1 : Int32)) M3) (fun v5 M6 => (if v5 = 0 then cl (has M6 r0 21) (s_m11_refused r0 (-3 : Int32) M6) (fun v7 M8 => s_m11_read_51 v7 M8) else gR M6 r0 21 44 (fun v9 => aI M6 v9 0 a3 (fun v10 => s_m11_read_51 v10 M6)))))) else cl (has M2 r0 21) (s_m11_refused r0 (-3 : Int32) M2) (fun v11 M12 => some (v11, M12))))
set_option maxRecDepth 100000 in
set_option maxHeartbeats 4000000 in
theorem w_m11_read_51 {V : Ev} {C : Cx} {n0 : Nat} (hC : Cok V C y_m11_read.cls b_m11_read 4 n0 (some .int) y_m11_read.name) (hR : cR C = rm_m11_read)  : ∀ (t0 : Int32) (M : Mm), Sm V C 4 n0 n0 (qI V C) 51 [] [.int t0] M (s_m11_read_51 t0 M) := by
  intro t0 M
  unfold s_m11_read_51
  exact Sm.iret hC d_m11_read_51 rfl (Nat.sub_self _)
set_option maxRecDepth 100000 in
set_option maxHeartbeats 4000000 in
theorem ok_m11_read {l : Launch} {V : Ev} {M M' : Mm} {r : Int32} {r0 : Nat} {a1 : Int32} {a2 : Int32} {a3 : Int32} (h : s_m11_read r0 a1 a2 a3 M = some (r, M')) : Met l y_m11_read (Cond.code y_m11_read b_m11_read 4 (some .int) :: TW) rm_m11_read (va_Pc [rv V.1 r0, .int a1, .int a2, .int a3] (Wd V M)) (QC V (some (.int r)) M' 0) 0 0 (Af V) := by
  refine met_of (fun x : Int32 => some (.int x)) (lv0 := [(0, rv V.1 r0), (1, .int a1), (2, .int a2), (3, .int a3)]) (by decide) (by simp [lg_sl, cat_rv, cat_i, cat_l, cat_f]) (by simp [lv_args, cat_rv, cat_i, cat_l, cat_f]) (fun C hl hR hC => ?_) h
  subst hl
  generalize mN M = n0 at hC ⊢
  unfold s_m11_read
  refine Sm.aload_n hC d_m11_read_0 rfl 0 rfl ?_
  refine Sm.iload_n hC d_m11_read_1 rfl 1 rfl ?_
  refine Sm.iload_n hC d_m11_read_2 rfl 2 rfl ?_
  refine Sm.callVi 11 (As := [.int a1, .int a2]) (st := []) hC hR cw_m11_isText (tw_i 1217 (by decide +kernel)) (tw_i 1219 (by decide +kernel)) (tw_i 45 (by decide +kernel)) ⟨_, rfl, rfl⟩ (fun r9 M9 h9 => ok_m11_isText h9) rfl rfl (RW.of ⟨rfl, rfl, by decide, by decide⟩) (by simp) d_m11_read_3 (fun v1 M2 => ?_)
  refine Sm.if_ne (tgt := 16) hC d_m11_read_6 (by decide) ?_ ?_
  · refine Sm.aload_n hC d_m11_read_16 rfl 0 rfl ?_
    refine Sm.iload_n hC d_m11_read_17 rfl 1 rfl ?_
    refine Sm.iload_n hC d_m11_read_18 rfl 2 rfl ?_
    refine Sm.callVv 11 (As := [.int a1, .int a2]) (st := []) hC hR cw_m11_make (tw_i 1221 (by decide +kernel)) (tw_i 1223 (by decide +kernel)) (tw_i 46 (by decide +kernel)) ⟨_, rfl, rfl⟩ (fun r9 M9 h9 => ok_m11_make h9) rfl rfl (RW.of ⟨rfl, rfl, by decide, by decide⟩) (by simp) d_m11_read_19 (fun _ M3 => ?_)
    refine Sm.iload_n hC d_m11_read_22 rfl 3 rfl ?_
    refine Sm.iconst (v := 0) hC d_m11_read_23 (by decide) ?_
    refine Sm.aload_n hC d_m11_read_24 rfl 0 rfl ?_
    refine Sm.getI hC fl_m11_266 rfl d_m11_read_25 (fun v4 => ?_)
    refine Sm.iconst (v := 1) hC d_m11_read_28 (by decide) ?_
    refine Sm.isub hC d_m11_read_29 ?_
    refine Sm.callSi (As := [.int a3, .int (0 : Int32), .int (v4 - (1 : Int32))]) (st := []) hC hR cw_m11_in (tw_i 1045 (by decide +kernel)) (tw_i 1046 (by decide +kernel)) (fun r9 M9 h9 => ok_m11_in h9) rfl rfl (RW.of ⟨rfl, rfl, by decide, by decide⟩) (by simp) d_m11_read_30 (fun v5 M6 => ?_)
    refine Sm.if_eq (tgt := 45) hC d_m11_read_33 (by decide) ?_ ?_
    · refine Sm.aload_n hC d_m11_read_45 rfl 0 rfl ?_
      refine Sm.bipush (v := -3) hC d_m11_read_46 (by decide) ?_
      refine Sm.callVi 11 (As := [.int (-3 : Int32)]) (st := []) hC hR cw_m11_refused (tw_i 1048 (by decide +kernel)) (tw_i 1050 (by decide +kernel)) (tw_i 23 (by decide +kernel)) ⟨_, rfl, rfl⟩ (fun r9 M9 h9 => ok_m11_refused h9) rfl rfl (RW.of ⟨rfl, rfl, by decide, by decide⟩) (by simp) d_m11_read_48 (fun v7 M8 => ?_)
      refine Sm.sub [] rfl ?_
      exact w_m11_read_51 hC hR v7 M8
    · refine Sm.aload_n hC d_m11_read_36 rfl 0 rfl ?_
      refine Sm.getR hC fl_m11_103 rfl d_m11_read_37 (fun v9 => ?_)
      refine Sm.iload_n hC d_m11_read_40 rfl 3 rfl ?_
      refine Sm.iald hC d_m11_read_41 (fun v10 => ?_)
      refine Sm.goto (tgt := 51) hC d_m11_read_42 (by decide) ?_
      refine Sm.sub [] rfl ?_
      exact w_m11_read_51 hC hR v10 M6
  · refine Sm.aload_n hC d_m11_read_9 rfl 0 rfl ?_
    refine Sm.bipush (v := -3) hC d_m11_read_10 (by decide) ?_
    refine Sm.callVi 11 (As := [.int (-3 : Int32)]) (st := []) hC hR cw_m11_refused (tw_i 1048 (by decide +kernel)) (tw_i 1050 (by decide +kernel)) (tw_i 23 (by decide +kernel)) ⟨_, rfl, rfl⟩ (fun r9 M9 h9 => ok_m11_refused h9) rfl rfl (RW.of ⟨rfl, rfl, by decide, by decide⟩) (by simp) d_m11_read_12 (fun v11 M12 => ?_)
    exact Sm.iret hC d_m11_read_15 rfl (Nat.sub_self _)
