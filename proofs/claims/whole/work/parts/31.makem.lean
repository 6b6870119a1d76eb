/-! NewsWireModel -/
abbrev b_m11_init : ByteArray := prog_13_method_1_code
def y_m11_init : MethodName := ⟨"NewsWireModel", "<init>", "()V"⟩
def rm_m11_init : Room := { frames := 1, cells := 40, slots := 4191, locals := 60 }
theorem cw_m11_init : CW y_m11_init b_m11_init 1 none 0 := ⟨tw_i 66 (by decide +kernel), tw_i 864 (by decide +kernel), by decide, by decide, by decide +kernel⟩
theorem d_m11_init_0 : decode b_m11_init 0 = .ok (.aload_n 0, 1) := by decide +kernel
theorem d_m11_init_1 : decode b_m11_init 1 = .ok (.invokespecial 1, 3) := by decide +kernel
theorem d_m11_init_4 : decode b_m11_init 4 = .ok (.aload_n 0, 1) := by decide +kernel
theorem d_m11_init_5 : decode b_m11_init 5 = .ok (.bipush 9, 2) := by decide +kernel
theorem d_m11_init_7 : decode b_m11_init 7 = .ok (.newarray .int, 2) := by decide +kernel
theorem d_m11_init_9 : decode b_m11_init 9 = .ok (.putfield 7, 3) := by decide +kernel
theorem d_m11_init_12 : decode b_m11_init 12 = .ok (.aload_n 0, 1) := by decide +kernel
theorem d_m11_init_13 : decode b_m11_init 13 = .ok (.bipush 6, 2) := by decide +kernel
theorem d_m11_init_15 : decode b_m11_init 15 = .ok (.newarray .int, 2) := by decide +kernel
theorem d_m11_init_17 : decode b_m11_init 17 = .ok (.putfield 13, 3) := by decide +kernel
theorem d_m11_init_20 : decode b_m11_init 20 = .ok (.aload_n 0, 1) := by decide +kernel
theorem d_m11_init_21 : decode b_m11_init 21 = .ok (.bipush 6, 2) := by decide +kernel
theorem d_m11_init_23 : decode b_m11_init 23 = .ok (.newarray .int, 2) := by decide +kernel
theorem d_m11_init_25 : decode b_m11_init 25 = .ok (.putfield 16, 3) := by decide +kernel
theorem d_m11_init_28 : decode b_m11_init 28 = .ok (.aload_n 0, 1) := by decide +kernel
theorem d_m11_init_29 : decode b_m11_init 29 = .ok (.bipush 6, 2) := by decide +kernel
theorem d_m11_init_31 : decode b_m11_init 31 = .ok (.newarray .int, 2) := by decide +kernel
theorem d_m11_init_33 : decode b_m11_init 33 = .ok (.putfield 19, 3) := by decide +kernel
theorem d_m11_init_36 : decode b_m11_init 36 = .ok (.aload_n 0, 1) := by decide +kernel
theorem d_m11_init_37 : decode b_m11_init 37 = .ok (.bipush 40, 2) := by decide +kernel
theorem d_m11_init_39 : decode b_m11_init 39 = .ok (.newarray .int, 2) := by decide +kernel
theorem d_m11_init_41 : decode b_m11_init 41 = .ok (.putfield 22, 3) := by decide +kernel
theorem d_m11_init_44 : decode b_m11_init 44 = .ok (.aload_n 0, 1) := by decide +kernel
theorem d_m11_init_45 : decode b_m11_init 45 = .ok (.bipush 40, 2) := by decide +kernel
theorem d_m11_init_47 : decode b_m11_init 47 = .ok (.newarray .int, 2) := by decide +kernel
theorem d_m11_init_49 : decode b_m11_init 49 = .ok (.putfield 25, 3) := by decide +kernel
theorem d_m11_init_52 : decode b_m11_init 52 = .ok (.aload_n 0, 1) := by decide +kernel
theorem d_m11_init_53 : decode b_m11_init 53 = .ok (.bipush 40, 2) := by decide +kernel
theorem d_m11_init_55 : decode b_m11_init 55 = .ok (.newarray .int, 2) := by decide +kernel
theorem d_m11_init_57 : decode b_m11_init 57 = .ok (.putfield 28, 3) := by decide +kernel
theorem d_m11_init_60 : decode b_m11_init 60 = .ok (.aload_n 0, 1) := by decide +kernel
theorem d_m11_init_61 : decode b_m11_init 61 = .ok (.bipush 40, 2) := by decide +kernel
theorem d_m11_init_63 : decode b_m11_init 63 = .ok (.newarray .int, 2) := by decide +kernel
theorem d_m11_init_65 : decode b_m11_init 65 = .ok (.putfield 31, 3) := by decide +kernel
theorem d_m11_init_68 : decode b_m11_init 68 = .ok (.aload_n 0, 1) := by decide +kernel
theorem d_m11_init_69 : decode b_m11_init 69 = .ok (.bipush 40, 2) := by decide +kernel
theorem d_m11_init_71 : decode b_m11_init 71 = .ok (.newarray .int, 2) := by decide +kernel
theorem d_m11_init_73 : decode b_m11_init 73 = .ok (.putfield 34, 3) := by decide +kernel
theorem d_m11_init_76 : decode b_m11_init 76 = .ok (.aload_n 0, 1) := by decide +kernel
theorem d_m11_init_77 : decode b_m11_init 77 = .ok (.bipush 40, 2) := by decide +kernel
theorem d_m11_init_79 : decode b_m11_init 79 = .ok (.newarray .int, 2) := by decide +kernel
theorem d_m11_init_81 : decode b_m11_init 81 = .ok (.putfield 37, 3) := by decide +kernel
theorem d_m11_init_84 : decode b_m11_init 84 = .ok (.aload_n 0, 1) := by decide +kernel
theorem d_m11_init_85 : decode b_m11_init 85 = .ok (.bipush 40, 2) := by decide +kernel
theorem d_m11_init_87 : decode b_m11_init 87 = .ok (.newarray .int, 2) := by decide +kernel
theorem d_m11_init_89 : decode b_m11_init 89 = .ok (.putfield 40, 3) := by decide +kernel
theorem d_m11_init_92 : decode b_m11_init 92 = .ok (.aload_n 0, 1) := by decide +kernel
theorem d_m11_init_93 : decode b_m11_init 93 = .ok (.sipush 480, 3) := by decide +kernel
theorem d_m11_init_96 : decode b_m11_init 96 = .ok (.newarray .int, 2) := by decide +kernel
theorem d_m11_init_98 : decode b_m11_init 98 = .ok (.putfield 43, 3) := by decide +kernel
theorem d_m11_init_101 : decode b_m11_init 101 = .ok (.aload_n 0, 1) := by decide +kernel
theorem d_m11_init_102 : decode b_m11_init 102 = .ok (.bipush 16, 2) := by decide +kernel
theorem d_m11_init_104 : decode b_m11_init 104 = .ok (.newarray .int, 2) := by decide +kernel
theorem d_m11_init_106 : decode b_m11_init 106 = .ok (.putfield 46, 3) := by decide +kernel
theorem d_m11_init_109 : decode b_m11_init 109 = .ok (.aload_n 0, 1) := by decide +kernel
theorem d_m11_init_110 : decode b_m11_init 110 = .ok (.bipush 11, 2) := by decide +kernel
theorem d_m11_init_112 : decode b_m11_init 112 = .ok (.newarray .int, 2) := by decide +kernel
theorem d_m11_init_114 : decode b_m11_init 114 = .ok (.putfield 49, 3) := by decide +kernel
theorem d_m11_init_117 : decode b_m11_init 117 = .ok (.aload_n 0, 1) := by decide +kernel
theorem d_m11_init_118 : decode b_m11_init 118 = .ok (.bipush 11, 2) := by decide +kernel
theorem d_m11_init_120 : decode b_m11_init 120 = .ok (.newarray .int, 2) := by decide +kernel
theorem d_m11_init_122 : decode b_m11_init 122 = .ok (.putfield 52, 3) := by decide +kernel
theorem d_m11_init_125 : decode b_m11_init 125 = .ok (.aload_n 0, 1) := by decide +kernel
theorem d_m11_init_126 : decode b_m11_init 126 = .ok (.bipush 11, 2) := by decide +kernel
theorem d_m11_init_128 : decode b_m11_init 128 = .ok (.newarray .int, 2) := by decide +kernel
theorem d_m11_init_130 : decode b_m11_init 130 = .ok (.putfield 55, 3) := by decide +kernel
theorem d_m11_init_133 : decode b_m11_init 133 = .ok (.aload_n 0, 1) := by decide +kernel
theorem d_m11_init_134 : decode b_m11_init 134 = .ok (.bipush 11, 2) := by decide +kernel
theorem d_m11_init_136 : decode b_m11_init 136 = .ok (.newarray .int, 2) := by decide +kernel
theorem d_m11_init_138 : decode b_m11_init 138 = .ok (.putfield 58, 3) := by decide +kernel
theorem d_m11_init_141 : decode b_m11_init 141 = .ok (.aload_n 0, 1) := by decide +kernel
theorem d_m11_init_142 : decode b_m11_init 142 = .ok (.bipush 11, 2) := by decide +kernel
theorem d_m11_init_144 : decode b_m11_init 144 = .ok (.newarray .int, 2) := by decide +kernel
theorem d_m11_init_146 : decode b_m11_init 146 = .ok (.putfield 61, 3) := by decide +kernel
theorem d_m11_init_149 : decode b_m11_init 149 = .ok (.aload_n 0, 1) := by decide +kernel
theorem d_m11_init_150 : decode b_m11_init 150 = .ok (.bipush 33, 2) := by decide +kernel
theorem d_m11_init_152 : decode b_m11_init 152 = .ok (.newarray .int, 2) := by decide +kernel
theorem d_m11_init_154 : decode b_m11_init 154 = .ok (.putfield 64, 3) := by decide +kernel
theorem d_m11_init_157 : decode b_m11_init 157 = .ok (.aload_n 0, 1) := by decide +kernel
theorem d_m11_init_158 : decode b_m11_init 158 = .ok (.bipush 33, 2) := by decide +kernel
theorem d_m11_init_160 : decode b_m11_init 160 = .ok (.newarray .int, 2) := by decide +kernel
theorem d_m11_init_162 : decode b_m11_init 162 = .ok (.putfield 67, 3) := by decide +kernel
theorem d_m11_init_165 : decode b_m11_init 165 = .ok (.aload_n 0, 1) := by decide +kernel
theorem d_m11_init_166 : decode b_m11_init 166 = .ok (.bipush 33, 2) := by decide +kernel
theorem d_m11_init_168 : decode b_m11_init 168 = .ok (.newarray .int, 2) := by decide +kernel
theorem d_m11_init_170 : decode b_m11_init 170 = .ok (.putfield 70, 3) := by decide +kernel
theorem d_m11_init_173 : decode b_m11_init 173 = .ok (.aload_n 0, 1) := by decide +kernel
theorem d_m11_init_174 : decode b_m11_init 174 = .ok (.bipush 80, 2) := by decide +kernel
theorem d_m11_init_176 : decode b_m11_init 176 = .ok (.newarray .int, 2) := by decide +kernel
theorem d_m11_init_178 : decode b_m11_init 178 = .ok (.putfield 73, 3) := by decide +kernel
theorem d_m11_init_181 : decode b_m11_init 181 = .ok (.aload_n 0, 1) := by decide +kernel
theorem d_m11_init_182 : decode b_m11_init 182 = .ok (.bipush 6, 2) := by decide +kernel
theorem d_m11_init_184 : decode b_m11_init 184 = .ok (.newarray .int, 2) := by decide +kernel
theorem d_m11_init_186 : decode b_m11_init 186 = .ok (.putfield 76, 3) := by decide +kernel
theorem d_m11_init_189 : decode b_m11_init 189 = .ok (.aload_n 0, 1) := by decide +kernel
theorem d_m11_init_190 : decode b_m11_init 190 = .ok (.sipush 240, 3) := by decide +kernel
theorem d_m11_init_193 : decode b_m11_init 193 = .ok (.newarray .int, 2) := by decide +kernel
theorem d_m11_init_195 : decode b_m11_init 195 = .ok (.putfield 79, 3) := by decide +kernel
theorem d_m11_init_198 : decode b_m11_init 198 = .ok (.aload_n 0, 1) := by decide +kernel
theorem d_m11_init_199 : decode b_m11_init 199 = .ok (.sipush 240, 3) := by decide +kernel
theorem d_m11_init_202 : decode b_m11_init 202 = .ok (.newarray .int, 2) := by decide +kernel
theorem d_m11_init_204 : decode b_m11_init 204 = .ok (.putfield 82, 3) := by decide +kernel
theorem d_m11_init_207 : decode b_m11_init 207 = .ok (.aload_n 0, 1) := by decide +kernel
theorem d_m11_init_208 : decode b_m11_init 208 = .ok (.sipush 240, 3) := by decide +kernel
theorem d_m11_init_211 : decode b_m11_init 211 = .ok (.newarray .int, 2) := by decide +kernel
theorem d_m11_init_213 : decode b_m11_init 213 = .ok (.putfield 85, 3) := by decide +kernel
theorem d_m11_init_216 : decode b_m11_init 216 = .ok (.aload_n 0, 1) := by decide +kernel
theorem d_m11_init_217 : decode b_m11_init 217 = .ok (.sipush 240, 3) := by decide +kernel
theorem d_m11_init_220 : decode b_m11_init 220 = .ok (.newarray .int, 2) := by decide +kernel
theorem d_m11_init_222 : decode b_m11_init 222 = .ok (.putfield 88, 3) := by decide +kernel
theorem d_m11_init_225 : decode b_m11_init 225 = .ok (.aload_n 0, 1) := by decide +kernel
theorem d_m11_init_226 : decode b_m11_init 226 = .ok (.sipush 320, 3) := by decide +kernel
theorem d_m11_init_229 : decode b_m11_init 229 = .ok (.newarray .int, 2) := by decide +kernel
theorem d_m11_init_231 : decode b_m11_init 231 = .ok (.putfield 91, 3) := by decide +kernel
theorem d_m11_init_234 : decode b_m11_init 234 = .ok (.aload_n 0, 1) := by decide +kernel
theorem d_m11_init_235 : decode b_m11_init 235 = .ok (.bipush 8, 2) := by decide +kernel
theorem d_m11_init_237 : decode b_m11_init 237 = .ok (.newarray .int, 2) := by decide +kernel
theorem d_m11_init_239 : decode b_m11_init 239 = .ok (.putfield 94, 3) := by decide +kernel
theorem d_m11_init_242 : decode b_m11_init 242 = .ok (.aload_n 0, 1) := by decide +kernel
theorem d_m11_init_243 : decode b_m11_init 243 = .ok (.bipush 40, 2) := by decide +kernel
theorem d_m11_init_245 : decode b_m11_init 245 = .ok (.newarray .int, 2) := by decide +kernel
theorem d_m11_init_247 : decode b_m11_init 247 = .ok (.putfield 97, 3) := by decide +kernel
theorem d_m11_init_250 : decode b_m11_init 250 = .ok (.aload_n 0, 1) := by decide +kernel
theorem d_m11_init_251 : decode b_m11_init 251 = .ok (.bipush 40, 2) := by decide +kernel
theorem d_m11_init_253 : decode b_m11_init 253 = .ok (.newarray .int, 2) := by decide +kernel
theorem d_m11_init_255 : decode b_m11_init 255 = .ok (.putfield 100, 3) := by decide +kernel
theorem d_m11_init_258 : decode b_m11_init 258 = .ok (.aload_n 0, 1) := by decide +kernel
theorem d_m11_init_259 : decode b_m11_init 259 = .ok (.sipush 700, 3) := by decide +kernel
theorem d_m11_init_262 : decode b_m11_init 262 = .ok (.newarray .int, 2) := by decide +kernel
theorem d_m11_init_264 : decode b_m11_init 264 = .ok (.putfield 103, 3) := by decide +kernel
theorem d_m11_init_267 : decode b_m11_init 267 = .ok (.aload_n 0, 1) := by decide +kernel
theorem d_m11_init_268 : decode b_m11_init 268 = .ok (.sipush 700, 3) := by decide +kernel
theorem d_m11_init_271 : decode b_m11_init 271 = .ok (.newarray .int, 2) := by decide +kernel
theorem d_m11_init_273 : decode b_m11_init 273 = .ok (.putfield 106, 3) := by decide +kernel
theorem d_m11_init_276 : decode b_m11_init 276 = .ok (.aload_n 0, 1) := by decide +kernel
theorem d_m11_init_277 : decode b_m11_init 277 = .ok (.bipush 12, 2) := by decide +kernel
theorem d_m11_init_279 : decode b_m11_init 279 = .ok (.newarray .int, 2) := by decide +kernel
theorem d_m11_init_281 : decode b_m11_init 281 = .ok (.putfield 109, 3) := by decide +kernel
theorem d_m11_init_284 : decode b_m11_init 284 = .ok (.aload_n 0, 1) := by decide +kernel
theorem d_m11_init_285 : decode b_m11_init 285 = .ok (.bipush 12, 2) := by decide +kernel
theorem d_m11_init_287 : decode b_m11_init 287 = .ok (.newarray .int, 2) := by decide +kernel
theorem d_m11_init_289 : decode b_m11_init 289 = .ok (.putfield 112, 3) := by decide +kernel
theorem d_m11_init_292 : decode b_m11_init 292 = .ok (.aload_n 0, 1) := by decide +kernel
theorem d_m11_init_293 : decode b_m11_init 293 = .ok (.bipush 8, 2) := by decide +kernel
theorem d_m11_init_295 : decode b_m11_init 295 = .ok (.newarray .boolean, 2) := by decide +kernel
theorem d_m11_init_297 : decode b_m11_init 297 = .ok (.putfield 115, 3) := by decide +kernel
theorem d_m11_init_300 : decode b_m11_init 300 = .ok (.aload_n 0, 1) := by decide +kernel
theorem d_m11_init_301 : decode b_m11_init 301 = .ok (.bipush 8, 2) := by decide +kernel
theorem d_m11_init_303 : decode b_m11_init 303 = .ok (.newarray .int, 2) := by decide +kernel
theorem d_m11_init_305 : decode b_m11_init 305 = .ok (.putfield 119, 3) := by decide +kernel
theorem d_m11_init_308 : decode b_m11_init 308 = .ok (.aload_n 0, 1) := by decide +kernel
theorem d_m11_init_309 : decode b_m11_init 309 = .ok (.bipush 8, 2) := by decide +kernel
theorem d_m11_init_311 : decode b_m11_init 311 = .ok (.newarray .int, 2) := by decide +kernel
theorem d_m11_init_313 : decode b_m11_init 313 = .ok (.putfield 122, 3) := by decide +kernel
theorem d_m11_init_316 : decode b_m11_init 316 = .ok (.aload_n 0, 1) := by decide +kernel
theorem d_m11_init_317 : decode b_m11_init 317 = .ok (.sipush 320, 3) := by decide +kernel
theorem d_m11_init_320 : decode b_m11_init 320 = .ok (.newarray .boolean, 2) := by decide +kernel
theorem d_m11_init_322 : decode b_m11_init 322 = .ok (.putfield 125, 3) := by decide +kernel
theorem d_m11_init_325 : decode b_m11_init 325 = .ok (.aload_n 0, 1) := by decide +kernel
theorem d_m11_init_326 : decode b_m11_init 326 = .ok (.bipush 12, 2) := by decide +kernel
theorem d_m11_init_328 : decode b_m11_init 328 = .ok (.newarray .int, 2) := by decide +kernel
theorem d_m11_init_330 : decode b_m11_init 330 = .ok (.putfield 128, 3) := by decide +kernel
theorem d_m11_init_333 : decode b_m11_init 333 = .ok (.return_, 1) := by decide +kernel
def s0_m11_init (n0 : Nat) (r0 : Nat) (M : Mm) : Option (Unit × Mm) := (if has M r0 21 = true then mkA n0 40 4191 M 0 (9 : Int32) (fun v1 M2 => pR M2 r0 21 1 v1 (fun M3 => mkA n0 40 4191 M3 0 (6 : Int32) (fun v4 M5 => pR M5 r0 21 3 v4 (fun M6 => mkA n0 40 4191 M6 0 (6 : Int32) (fun v7 M8 => pR M8 r0 21 4 v7 (fun M9 => mkA n0 40 4191 M9 0 (6 : Int32) (fun v10 M11 => pR M11 r0 21 5 v10 (fun M12 => mkA n0 40 4191 M12 0 (40 : Int32) (fun v13 M14 => pR M14 r0 21 7 v13 (fun M15 => mkA n0 40 4191 M15 0 (40 : Int32) (fun v16 M17 => pR M17 r0 21 8 v16 (fun M18 => mkA n0 40 4191 M18 0 (40 : Int32) (fun v19 M20 => pR M20 r0 21 9 v19 (fun M21 => mkA n0 40 4191 M21 0 (40 : Int32) (fun v22 M23 => pR M23 r0 21 10 v22 (fun M24 => mkA n0 40 4191 M24 0 (40 : Int32) (fun v25 M26 => pR M26 r0 21 11 v25 (fun M27 => mkA n0 40 4191 M27 0 (40 : Int32) (fun v28 M29 => pR M29 r0 21 12 v28 (fun M30 => mkA n0 40 4191 M30 0 (40 : Int32) (fun v31 M32 => pR M32 r0 21 13 v31 (fun M33 => mkA n0 40 4191 M33 0 (480 : Int32) (fun v34 M35 => pR M35 r0 21 14 v34 (fun M36 => mkA n0 40 4191 M36 0 (16 : Int32) (fun v37 M38 => pR M38 r0 21 16 v37 (fun M39 => mkA n0 40 4191 M39 0 (11 : Int32) (fun v40 M41 => pR M41 r0 21 18 v40 (fun M42 => mkA n0 40 4191 M42 0 (11 : Int32) (fun v43 M44 => pR M44 r0 21 19 v43 (fun M45 => mkA n0 40 4191 M45 0 (11 : Int32) (fun v46 M47 => pR M47 r0 21 20 v46 (fun M48 => mkA n0 40 4191 M48 0 (11 : Int32) (fun v49 M50 => pR M50 r0 21 21 v49 (fun M51 => mkA n0 40 4191 M51 0 (11 : Int32) (fun v52 M53 => pR M53 r0 21 22 v52 (fun M54 => mkA n0 40 4191 M54 0 (33 : Int32) (fun v55 M56 => pR M56 r0 21 23 v55 (fun M57 => mkA n0 40 4191 M57 0 (33 : Int32) (fun v58 M59 => pR M59 r0 21 24 v58 (fun M60 => mkA n0 40 4191 M60 0 (33 : Int32) (fun v61 M62 => pR M62 r0 21 25 v61 (fun M63 => mkA n0 40 4191 M63 0 (80 : Int32) (fun v64 M65 => pR M65 r0 21 27 v64 (fun M66 => mkA n0 40 4191 M66 0 (6 : Int32) (fun v67 M68 => pR M68 r0 21 32 v67 (fun M69 => mkA n0 40 4191 M69 0 (240 : Int32) (fun v70 M71 => pR M71 r0 21 33 v70 (fun M72 => mkA n0 40 4191 M72 0 (240 : Int32) (fun v73 M74 => pR M74 r0 21 34 v73 (fun M75 => mkA n0 40 4191 M75 0 (240 : Int32) (fun v76 M77 => pR M77 r0 21 35 v76 (fun M78 => mkA n0 40 4191 M78 0 (240 : Int32) (fun v79 M80 => pR M80 r0 21 36 v79 (fun M81 => mkA n0 40 4191 M81 0 (320 : Int32) (fun v82 M83 => pR M83 r0 21 37 v82 (fun M84 => mkA n0 40 4191 M84 0 (8 : Int32) (fun v85 M86 => pR M86 r0 21 38 v85 (fun M87 => mkA n0 40 4191 M87 0 (40 : Int32) (fun v88 M89 => pR M89 r0 21 40 v88 (fun M90 => mkA n0 40 4191 M90 0 (40 : Int32) (fun v91 M92 => pR M92 r0 21 41 v91 (fun M93 => mkA n0 40 4191 M93 0 (700 : Int32) (fun v94 M95 => pR M95 r0 21 44 v94 (fun M96 => mkA n0 40 4191 M96 0 (700 : Int32) (fun v97 M98 => pR M98 r0 21 45 v97 (fun M99 => mkA n0 40 4191 M99 0 (12 : Int32) (fun v100 M101 => pR M101 r0 21 50 v100 (fun M102 => mkA n0 40 4191 M102 0 (12 : Int32) (fun v103 M104 => pR M104 r0 21 51 v103 (fun M105 => mkA n0 40 4191 M105 1 (8 : Int32) (fun v106 M107 => pR M107 r0 21 52 v106 (fun M108 => mkA n0 40 4191 M108 0 (8 : Int32) (fun v109 M110 => pR M110 r0 21 53 v109 (fun M111 => mkA n0 40 4191 M111 0 (8 : Int32) (fun v112 M113 => pR M113 r0 21 54 v112 (fun M114 => mkA n0 40 4191 M114 1 (320 : Int32) (fun v115 M116 => pR M116 r0 21 55 v115 (fun M117 => mkA n0 40 4191 M117 0 (12 : Int32) (fun v118 M119 => pR M119 r0 21 57 v118 (fun M120 => rtK n0 40 4191 M120)))))))))))))))))))))))))))))))))))))))))))))))))))))))))))))))))))))))))))))))) else none)
def s_m11_init (r0 : Nat) (M : Mm) : Option (Unit × Mm) := s0_m11_init (mN M) r0 M
set_option maxRecDepth 100000 in
set_option maxHeartbeats 4000000 in
theorem ok_m11_init {l : Launch} {V : Ev} {M M' : Mm} {r : Unit} {r0 : Nat} (h : s_m11_init r0 M = some (r, M')) : Met l y_m11_init (Cond.code y_m11_init b_m11_init 1 none :: TW) rm_m11_init (va_Pc [rv V.1 r0] (Wd V M)) (QC V none M' 40) 40 4191 (Af V) := by
  refine met_of (fun _ : Unit => none) (lv0 := [(0, rv V.1 r0)]) (by decide) (by simp [lg_sl, cat_rv, cat_i, cat_l, cat_f]) (by simp [lv_args, cat_rv, cat_i, cat_l, cat_f]) (fun C hl hR hC => ?_) h
  subst hl
  unfold s_m11_init s0_m11_init
  generalize mN M = n0 at hC ⊢
  refine Sm.aload_n hC d_m11_init_0 rfl 0 rfl ?_
  refine Sm.objInit hC hR (tw_i 865 (by decide +kernel)) (tw_i 79 (by decide +kernel)) (tw_i 80 (by decide +kernel)) (by decide) (by decide) (by simp) d_m11_init_1 ?_
  refine Sm.aload_n hC d_m11_init_4 rfl 0 rfl ?_
  refine Sm.bipush (v := 9) hC d_m11_init_5 (by decide) ?_
  refine Sm.newa (atype := .int) hC hR ⟨rfl, rfl⟩ (Or.inl ⟨rfl, rfl⟩) (tw_i 131 (by decide +kernel)) d_m11_init_7 (fun v1 M2 => ?_)
  refine Sm.putRF hC rfl fl_m11_7 rfl rfl rfl d_m11_init_9 (fun M3 => ?_)
  refine Sm.aload_n hC d_m11_init_12 rfl 0 rfl ?_
  refine Sm.bipush (v := 6) hC d_m11_init_13 (by decide) ?_
  refine Sm.newa (atype := .int) hC hR ⟨rfl, rfl⟩ (Or.inl ⟨rfl, rfl⟩) (tw_i 131 (by decide +kernel)) d_m11_init_15 (fun v4 M5 => ?_)
  refine Sm.putRF hC rfl fl_m11_13 rfl rfl rfl d_m11_init_17 (fun M6 => ?_)
  refine Sm.aload_n hC d_m11_init_20 rfl 0 rfl ?_
  refine Sm.bipush (v := 6) hC d_m11_init_21 (by decide) ?_
  refine Sm.newa (atype := .int) hC hR ⟨rfl, rfl⟩ (Or.inl ⟨rfl, rfl⟩) (tw_i 131 (by decide +kernel)) d_m11_init_23 (fun v7 M8 => ?_)
  refine Sm.putRF hC rfl fl_m11_16 rfl rfl rfl d_m11_init_25 (fun M9 => ?_)
  refine Sm.aload_n hC d_m11_init_28 rfl 0 rfl ?_
  refine Sm.bipush (v := 6) hC d_m11_init_29 (by decide) ?_
  refine Sm.newa (atype := .int) hC hR ⟨rfl, rfl⟩ (Or.inl ⟨rfl, rfl⟩) (tw_i 131 (by decide +kernel)) d_m11_init_31 (fun v10 M11 => ?_)
  refine Sm.putRF hC rfl fl_m11_19 rfl rfl rfl d_m11_init_33 (fun M12 => ?_)
  refine Sm.aload_n hC d_m11_init_36 rfl 0 rfl ?_
  refine Sm.bipush (v := 40) hC d_m11_init_37 (by decide) ?_
  refine Sm.newa (atype := .int) hC hR ⟨rfl, rfl⟩ (Or.inl ⟨rfl, rfl⟩) (tw_i 131 (by decide +kernel)) d_m11_init_39 (fun v13 M14 => ?_)
  refine Sm.putRF hC rfl fl_m11_22 rfl rfl rfl d_m11_init_41 (fun M15 => ?_)
  refine Sm.aload_n hC d_m11_init_44 rfl 0 rfl ?_
  refine Sm.bipush (v := 40) hC d_m11_init_45 (by decide) ?_
  refine Sm.newa (atype := .int) hC hR ⟨rfl, rfl⟩ (Or.inl ⟨rfl, rfl⟩) (tw_i 131 (by decide +kernel)) d_m11_init_47 (fun v16 M17 => ?_)
  refine Sm.putRF hC rfl fl_m11_25 rfl rfl rfl d_m11_init_49 (fun M18 => ?_)
  refine Sm.aload_n hC d_m11_init_52 rfl 0 rfl ?_
  refine Sm.bipush (v := 40) hC d_m11_init_53 (by decide) ?_
  refine Sm.newa (atype := .int) hC hR ⟨rfl, rfl⟩ (Or.inl ⟨rfl, rfl⟩) (tw_i 131 (by decide +kernel)) d_m11_init_55 (fun v19 M20 => ?_)
  refine Sm.putRF hC rfl fl_m11_28 rfl rfl rfl d_m11_init_57 (fun M21 => ?_)
  refine Sm.aload_n hC d_m11_init_60 rfl 0 rfl ?_
  refine Sm.bipush (v := 40) hC d_m11_init_61 (by decide) ?_
  refine Sm.newa (atype := .int) hC hR ⟨rfl, rfl⟩ (Or.inl ⟨rfl, rfl⟩) (tw_i 131 (by decide +kernel)) d_m11_init_63 (fun v22 M23 => ?_)
  refine Sm.putRF hC rfl fl_m11_31 rfl rfl rfl d_m11_init_65 (fun M24 => ?_)
  refine Sm.aload_n hC d_m11_init_68 rfl 0 rfl ?_
  refine Sm.bipush (v := 40) hC d_m11_init_69 (by decide) ?_
  refine Sm.newa (atype := .int) hC hR ⟨rfl, rfl⟩ (Or.inl ⟨rfl, rfl⟩) (tw_i 131 (by decide +kernel)) d_m11_init_71 (fun v25 M26 => ?_)
  refine Sm.putRF hC rfl fl_m11_34 rfl rfl rfl d_m11_init_73 (fun M27 => ?_)
  refine Sm.aload_n hC d_m11_init_76 rfl 0 rfl ?_
  refine Sm.bipush (v := 40) hC d_m11_init_77 (by decide) ?_
  refine Sm.newa (atype := .int) hC hR ⟨rfl, rfl⟩ (Or.inl ⟨rfl, rfl⟩) (tw_i 131 (by decide +kernel)) d_m11_init_79 (fun v28 M29 => ?_)
  refine Sm.putRF hC rfl fl_m11_37 rfl rfl rfl d_m11_init_81 (fun M30 => ?_)
  refine Sm.aload_n hC d_m11_init_84 rfl 0 rfl ?_
  refine Sm.bipush (v := 40) hC d_m11_init_85 (by decide) ?_
  refine Sm.newa (atype := .int) hC hR ⟨rfl, rfl⟩ (Or.inl ⟨rfl, rfl⟩) (tw_i 131 (by decide +kernel)) d_m11_init_87 (fun v31 M32 => ?_)
  refine Sm.putRF hC rfl fl_m11_40 rfl rfl rfl d_m11_init_89 (fun M33 => ?_)
  refine Sm.aload_n hC d_m11_init_92 rfl 0 rfl ?_
  refine Sm.sipush (v := 480) hC d_m11_init_93 (by decide) ?_
  refine Sm.newa (atype := .int) hC hR ⟨rfl, rfl⟩ (Or.inl ⟨rfl, rfl⟩) (tw_i 131 (by decide +kernel)) d_m11_init_96 (fun v34 M35 => ?_)
  refine Sm.putRF hC rfl fl_m11_43 rfl rfl rfl d_m11_init_98 (fun M36 => ?_)
  refine Sm.aload_n hC d_m11_init_101 rfl 0 rfl ?_
  refine Sm.bipush (v := 16) hC d_m11_init_102 (by decide) ?_
  refine Sm.newa (atype := .int) hC hR ⟨rfl, rfl⟩ (Or.inl ⟨rfl, rfl⟩) (tw_i 131 (by decide +kernel)) d_m11_init_104 (fun v37 M38 => ?_)
  refine Sm.putRF hC rfl fl_m11_46 rfl rfl rfl d_m11_init_106 (fun M39 => ?_)
  refine Sm.aload_n hC d_m11_init_109 rfl 0 rfl ?_
  refine Sm.bipush (v := 11) hC d_m11_init_110 (by decide) ?_
  refine Sm.newa (atype := .int) hC hR ⟨rfl, rfl⟩ (Or.inl ⟨rfl, rfl⟩) (tw_i 131 (by decide +kernel)) d_m11_init_112 (fun v40 M41 => ?_)
  refine Sm.putRF hC rfl fl_m11_49 rfl rfl rfl d_m11_init_114 (fun M42 => ?_)
  refine Sm.aload_n hC d_m11_init_117 rfl 0 rfl ?_
  refine Sm.bipush (v := 11) hC d_m11_init_118 (by decide) ?_
  refine Sm.newa (atype := .int) hC hR ⟨rfl, rfl⟩ (Or.inl ⟨rfl, rfl⟩) (tw_i 131 (by decide +kernel)) d_m11_init_120 (fun v43 M44 => ?_)
  refine Sm.putRF hC rfl fl_m11_52 rfl rfl rfl d_m11_init_122 (fun M45 => ?_)
  refine Sm.aload_n hC d_m11_init_125 rfl 0 rfl ?_
  refine Sm.bipush (v := 11) hC d_m11_init_126 (by decide) ?_
  refine Sm.newa (atype := .int) hC hR ⟨rfl, rfl⟩ (Or.inl ⟨rfl, rfl⟩) (tw_i 131 (by decide +kernel)) d_m11_init_128 (fun v46 M47 => ?_)
  refine Sm.putRF hC rfl fl_m11_55 rfl rfl rfl d_m11_init_130 (fun M48 => ?_)
  refine Sm.aload_n hC d_m11_init_133 rfl 0 rfl ?_
  refine Sm.bipush (v := 11) hC d_m11_init_134 (by decide) ?_
  refine Sm.newa (atype := .int) hC hR ⟨rfl, rfl⟩ (Or.inl ⟨rfl, rfl⟩) (tw_i 131 (by decide +kernel)) d_m11_init_136 (fun v49 M50 => ?_)
  refine Sm.putRF hC rfl fl_m11_58 rfl rfl rfl d_m11_init_138 (fun M51 => ?_)
  refine Sm.aload_n hC d_m11_init_141 rfl 0 rfl ?_
  refine Sm.bipush (v := 11) hC d_m11_init_142 (by decide) ?_
  refine Sm.newa (atype := .int) hC hR ⟨rfl, rfl⟩ (Or.inl ⟨rfl, rfl⟩) (tw_i 131 (by decide +kernel)) d_m11_init_144 (fun v52 M53 => ?_)
  refine Sm.putRF hC rfl fl_m11_61 rfl rfl rfl d_m11_init_146 (fun M54 => ?_)
  refine Sm.aload_n hC d_m11_init_149 rfl 0 rfl ?_
  refine Sm.bipush (v := 33) hC d_m11_init_150 (by decide) ?_
  refine Sm.newa (atype := .int) hC hR ⟨rfl, rfl⟩ (Or.inl ⟨rfl, rfl⟩) (tw_i 131 (by decide +kernel)) d_m11_init_152 (fun v55 M56 => ?_)
  refine Sm.putRF hC rfl fl_m11_64 rfl rfl rfl d_m11_init_154 (fun M57 => ?_)
  refine Sm.aload_n hC d_m11_init_157 rfl 0 rfl ?_
  refine Sm.bipush (v := 33) hC d_m11_init_158 (by decide) ?_
  refine Sm.newa (atype := .int) hC hR ⟨rfl, rfl⟩ (Or.inl ⟨rfl, rfl⟩) (tw_i 131 (by decide +kernel)) d_m11_init_160 (fun v58 M59 => ?_)
  refine Sm.putRF hC rfl fl_m11_67 rfl rfl rfl d_m11_init_162 (fun M60 => ?_)
  refine Sm.aload_n hC d_m11_init_165 rfl 0 rfl ?_
  refine Sm.bipush (v := 33) hC d_m11_init_166 (by decide) ?_
  refine Sm.newa (atype := .int) hC hR ⟨rfl, rfl⟩ (Or.inl ⟨rfl, rfl⟩) (tw_i 131 (by decide +kernel)) d_m11_init_168 (fun v61 M62 => ?_)
  refine Sm.putRF hC rfl fl_m11_70 rfl rfl rfl d_m11_init_170 (fun M63 => ?_)
  refine Sm.aload_n hC d_m11_init_173 rfl 0 rfl ?_
  refine Sm.bipush (v := 80) hC d_m11_init_174 (by decide) ?_
  refine Sm.newa (atype := .int) hC hR ⟨rfl, rfl⟩ (Or.inl ⟨rfl, rfl⟩) (tw_i 131 (by decide +kernel)) d_m11_init_176 (fun v64 M65 => ?_)
  refine Sm.putRF hC rfl fl_m11_73 rfl rfl rfl d_m11_init_178 (fun M66 => ?_)
  refine Sm.aload_n hC d_m11_init_181 rfl 0 rfl ?_
  refine Sm.bipush (v := 6) hC d_m11_init_182 (by decide) ?_
  refine Sm.newa (atype := .int) hC hR ⟨rfl, rfl⟩ (Or.inl ⟨rfl, rfl⟩) (tw_i 131 (by decide +kernel)) d_m11_init_184 (fun v67 M68 => ?_)
  refine Sm.putRF hC rfl fl_m11_76 rfl rfl rfl d_m11_init_186 (fun M69 => ?_)
  refine Sm.aload_n hC d_m11_init_189 rfl 0 rfl ?_
  refine Sm.sipush (v := 240) hC d_m11_init_190 (by decide) ?_
  refine Sm.newa (atype := .int) hC hR ⟨rfl, rfl⟩ (Or.inl ⟨rfl, rfl⟩) (tw_i 131 (by decide +kernel)) d_m11_init_193 (fun v70 M71 => ?_)
  refine Sm.putRF hC rfl fl_m11_79 rfl rfl rfl d_m11_init_195 (fun M72 => ?_)
  refine Sm.aload_n hC d_m11_init_198 rfl 0 rfl ?_
  refine Sm.sipush (v := 240) hC d_m11_init_199 (by decide) ?_
  refine Sm.newa (atype := .int) hC hR ⟨rfl, rfl⟩ (Or.inl ⟨rfl, rfl⟩) (tw_i 131 (by decide +kernel)) d_m11_init_202 (fun v73 M74 => ?_)
  refine Sm.putRF hC rfl fl_m11_82 rfl rfl rfl d_m11_init_204 (fun M75 => ?_)
  refine Sm.aload_n hC d_m11_init_207 rfl 0 rfl ?_
  refine Sm.sipush (v := 240) hC d_m11_init_208 (by decide) ?_
  refine Sm.newa (atype := .int) hC hR ⟨rfl, rfl⟩ (Or.inl ⟨rfl, rfl⟩) (tw_i 131 (by decide +kernel)) d_m11_init_211 (fun v76 M77 => ?_)
  refine Sm.putRF hC rfl fl_m11_85 rfl rfl rfl d_m11_init_213 (fun M78 => ?_)
  refine Sm.aload_n hC d_m11_init_216 rfl 0 rfl ?_
  refine Sm.sipush (v := 240) hC d_m11_init_217 (by decide) ?_
  refine Sm.newa (atype := .int) hC hR ⟨rfl, rfl⟩ (Or.inl ⟨rfl, rfl⟩) (tw_i 131 (by decide +kernel)) d_m11_init_220 (fun v79 M80 => ?_)
  refine Sm.putRF hC rfl fl_m11_88 rfl rfl rfl d_m11_init_222 (fun M81 => ?_)
  refine Sm.aload_n hC d_m11_init_225 rfl 0 rfl ?_
  refine Sm.sipush (v := 320) hC d_m11_init_226 (by decide) ?_
  refine Sm.newa (atype := .int) hC hR ⟨rfl, rfl⟩ (Or.inl ⟨rfl, rfl⟩) (tw_i 131 (by decide +kernel)) d_m11_init_229 (fun v82 M83 => ?_)
  refine Sm.putRF hC rfl fl_m11_91 rfl rfl rfl d_m11_init_231 (fun M84 => ?_)
  refine Sm.aload_n hC d_m11_init_234 rfl 0 rfl ?_
  refine Sm.bipush (v := 8) hC d_m11_init_235 (by decide) ?_
  refine Sm.newa (atype := .int) hC hR ⟨rfl, rfl⟩ (Or.inl ⟨rfl, rfl⟩) (tw_i 131 (by decide +kernel)) d_m11_init_237 (fun v85 M86 => ?_)
  refine Sm.putRF hC rfl fl_m11_94 rfl rfl rfl d_m11_init_239 (fun M87 => ?_)
  refine Sm.aload_n hC d_m11_init_242 rfl 0 rfl ?_
  refine Sm.bipush (v := 40) hC d_m11_init_243 (by decide) ?_
  refine Sm.newa (atype := .int) hC hR ⟨rfl, rfl⟩ (Or.inl ⟨rfl, rfl⟩) (tw_i 131 (by decide +kernel)) d_m11_init_245 (fun v88 M89 => ?_)
  refine Sm.putRF hC rfl fl_m11_97 rfl rfl rfl d_m11_init_247 (fun M90 => ?_)
  refine Sm.aload_n hC d_m11_init_250 rfl 0 rfl ?_
  refine Sm.bipush (v := 40) hC d_m11_init_251 (by decide) ?_
  refine Sm.newa (atype := .int) hC hR ⟨rfl, rfl⟩ (Or.inl ⟨rfl, rfl⟩) (tw_i 131 (by decide +kernel)) d_m11_init_253 (fun v91 M92 => ?_)
  refine Sm.putRF hC rfl fl_m11_100 rfl rfl rfl d_m11_init_255 (fun M93 => ?_)
  refine Sm.aload_n hC d_m11_init_258 rfl 0 rfl ?_
  refine Sm.sipush (v := 700) hC d_m11_init_259 (by decide) ?_
  refine Sm.newa (atype := .int) hC hR ⟨rfl, rfl⟩ (Or.inl ⟨rfl, rfl⟩) (tw_i 131 (by decide +kernel)) d_m11_init_262 (fun v94 M95 => ?_)
  refine Sm.putRF hC rfl fl_m11_103 rfl rfl rfl d_m11_init_264 (fun M96 => ?_)
  refine Sm.aload_n hC d_m11_init_267 rfl 0 rfl ?_
  refine Sm.sipush (v := 700) hC d_m11_init_268 (by decide) ?_
  refine Sm.newa (atype := .int) hC hR ⟨rfl, rfl⟩ (Or.inl ⟨rfl, rfl⟩) (tw_i 131 (by decide +kernel)) d_m11_init_271 (fun v97 M98 => ?_)
  refine Sm.putRF hC rfl fl_m11_106 rfl rfl rfl d_m11_init_273 (fun M99 => ?_)
  refine Sm.aload_n hC d_m11_init_276 rfl 0 rfl ?_
  refine Sm.bipush (v := 12) hC d_m11_init_277 (by decide) ?_
  refine Sm.newa (atype := .int) hC hR ⟨rfl, rfl⟩ (Or.inl ⟨rfl, rfl⟩) (tw_i 131 (by decide +kernel)) d_m11_init_279 (fun v100 M101 => ?_)
  refine Sm.putRF hC rfl fl_m11_109 rfl rfl rfl d_m11_init_281 (fun M102 => ?_)
  refine Sm.aload_n hC d_m11_init_284 rfl 0 rfl ?_
  refine Sm.bipush (v := 12) hC d_m11_init_285 (by decide) ?_
  refine Sm.newa (atype := .int) hC hR ⟨rfl, rfl⟩ (Or.inl ⟨rfl, rfl⟩) (tw_i 131 (by decide +kernel)) d_m11_init_287 (fun v103 M104 => ?_)
  refine Sm.putRF hC rfl fl_m11_112 rfl rfl rfl d_m11_init_289 (fun M105 => ?_)
  refine Sm.aload_n hC d_m11_init_292 rfl 0 rfl ?_
  refine Sm.bipush (v := 8) hC d_m11_init_293 (by decide) ?_
  refine Sm.newa (atype := .boolean) hC hR ⟨rfl, rfl⟩ (Or.inr ⟨rfl, rfl⟩) (tw_i 1040 (by decide +kernel)) d_m11_init_295 (fun v106 M107 => ?_)
  refine Sm.putRF hC rfl fl_m11_115 rfl rfl rfl d_m11_init_297 (fun M108 => ?_)
  refine Sm.aload_n hC d_m11_init_300 rfl 0 rfl ?_
  refine Sm.bipush (v := 8) hC d_m11_init_301 (by decide) ?_
  refine Sm.newa (atype := .int) hC hR ⟨rfl, rfl⟩ (Or.inl ⟨rfl, rfl⟩) (tw_i 131 (by decide +kernel)) d_m11_init_303 (fun v109 M110 => ?_)
  refine Sm.putRF hC rfl fl_m11_119 rfl rfl rfl d_m11_init_305 (fun M111 => ?_)
  refine Sm.aload_n hC d_m11_init_308 rfl 0 rfl ?_
  refine Sm.bipush (v := 8) hC d_m11_init_309 (by decide) ?_
  refine Sm.newa (atype := .int) hC hR ⟨rfl, rfl⟩ (Or.inl ⟨rfl, rfl⟩) (tw_i 131 (by decide +kernel)) d_m11_init_311 (fun v112 M113 => ?_)
  refine Sm.putRF hC rfl fl_m11_122 rfl rfl rfl d_m11_init_313 (fun M114 => ?_)
  refine Sm.aload_n hC d_m11_init_316 rfl 0 rfl ?_
  refine Sm.sipush (v := 320) hC d_m11_init_317 (by decide) ?_
  refine Sm.newa (atype := .boolean) hC hR ⟨rfl, rfl⟩ (Or.inr ⟨rfl, rfl⟩) (tw_i 1040 (by decide +kernel)) d_m11_init_320 (fun v115 M116 => ?_)
  refine Sm.putRF hC rfl fl_m11_125 rfl rfl rfl d_m11_init_322 (fun M117 => ?_)
  refine Sm.aload_n hC d_m11_init_325 rfl 0 rfl ?_
  refine Sm.bipush (v := 12) hC d_m11_init_326 (by decide) ?_
  refine Sm.newa (atype := .int) hC hR ⟨rfl, rfl⟩ (Or.inl ⟨rfl, rfl⟩) (tw_i 131 (by decide +kernel)) d_m11_init_328 (fun v118 M119 => ?_)
  refine Sm.putRF hC rfl fl_m11_128 rfl rfl rfl d_m11_init_330 (fun M120 => ?_)
  exact Sm.vretK hC d_m11_init_333
