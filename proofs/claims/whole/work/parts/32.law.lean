-- out of the skeleton (a starting text)
def R_law : String := "NewsWireLaw"
def lw_P (b : Addr) (xs : List Int32) (args : Array Value) (s : State) : Prop := args = #[.ref b] ∧ s.IntsAt b xs ∧ xs.length ≤ 2560 ∧ (Jvm.Cond.and given_1 narrow_1).before args s = true
def lw_Q (_ : Array Value) (s : State) (o : Outcome) (t : State) : Prop := o = .returned (some (.int 1)) ∧ Framed s o t [] 600000 7302250
def lw_Z (below : List Frame) (a : Array Value) (s : State) : State → Prop := fun t => ∃ o, t.status = .running ∧ Ended t below o ∧ lw_Q a s o t
/-- the law's own end, with 1 on the stack, nothing written that was there before, its room as the claim has it -/
theorem lw_ret {p : Program} {l : Launch} {e : Env} {s : State} {m : MethodId} {below : List Frame} {meth : Method} {c : Code} {b : Nat} (hx : p.tables.exec = Jvm.exec) (hb : c.code = code) (hr : meth.sig.returnType = ret) (hlocks : meth.locks = false) {pc : Nat} {H : Heap} {ls : Array Slot} (hdg : decode code pc = .ok (.ireturn, 1)) : W p l e room_1 s m #[Value.ref b] below meth c H [] 600000 7302250 (lw_Z below #[Value.ref b] s) (F0 m pc ls [.int 1]) := by
  intro T hT X
  obtain ⟨fs, hret, hrun, hended, hW, hframe⟩ := X.leave (v := some (.int 1)) (hlocks := hlocks) (fun h => by rw [hr] at h; cases h)
  have hmeth' : T.vm.method? m = some meth := X.method'
  refine ⟨T.setFrames fs, ?_, .returned (some (.int 1)), hrun, hended, rfl, ⟨_, rfl⟩, hW, hframe⟩
  jvm_step X.here [X.here.top, hx, hb, hdg, hmeth', hr, ret, narrow_b1]
  (try refine ⟨rfl, ?_⟩); (try refine ⟨rfl, ?_⟩)
  first | (intro acts; rw [hret _ acts rfl rfl rfl]) | rw [hret _ _ rfl rfl rfl]
  exact Steps.refl _
/-- what holds at the law's entry: the machine, the code, the tables' words (any of lw_tbl by 'hts w (by decide +kernel)'), the script of L ints xs at the cell b, what the Statement gives of the start (any of its parts by flat_of_before) -/
def lw_At (p : Program) (s : State) (m : MethodId) (meth : Method) (c : Code) (b L : Nat) (xs : Nat → Int32) : Prop :=
  p.tables.exec = Jvm.exec ∧ c.code = code ∧ meth.sig.returnType = ret ∧ c.maxLocals = 4 ∧ s.vm.findClass R_law = some m.cls ∧ (∀ w ∈ lw_tbl, w.before #[Value.ref b] s = true) ∧ va_X b L xs s s.heap ∧ b < s.heap.size ∧ meth.locks = false ∧ (Jvm.Cond.and given_1 narrow_1).before #[Value.ref b] s = true
/-! the law -/
def at224 {α : Type} (M : Mm) (X : Option α) : Option α := if Nat.beq (mN M) 224 = true then X else none
/-- the script: its length, an int of it -/
def sL {α : Type} (L : Nat) (f : Int32 → Option α) : Option α := f (Int32.ofNat L)
def sX {α : Type} (L : Nat) (xs : Nat → Int32) (i : Int32) (f : Int32 → Option α) : Option α := if inb i L = true then f (xs i.toNatClampNeg) else none
def qW (C : Cx) (b : Nat) : Int32 × Mm → State → Prop := fun res => if res.1 = 1 then lw_Z (cB C) #[Value.ref b] (cS C) else fun _ => False
section LAW
variable {α : Type} {V : Ev} {C : Cx} {own nm : String} {cc : ByteArray} {nL n0 nc : Nat} {QQ : α → State → Prop} {pc : Nat} {lv : List (Nat × Value)} {st : List Value} {M : Mm} {X : Option α} {b L : Nat} {xs : Nat → Int32} {ret9 : Option FieldType}
theorem Sm.at224_ (k : Sm V C nL n0 224 QQ pc lv st M X) : Sm V C nL n0 (mN M) QQ pc lv st M (at224 M X) := by
  unfold at224
  refine Sm.if_ (fun h => ?_) (fun _ => Sm.none_)
  rw [Nat.eq_of_beq_eq_true h]
  exact k
theorem Sm.scl (hC : Cok V C own cc nL n0 ret9 nm) (hX : va_X b L xs (cS C) (cS C).heap) (hbl : b < (cS C).heap.size) (hbA : ¬ Af V b) {f : Int32 → Option α} (hd : decode cc pc = .ok (.arraylength, 1)) (kk : ∀ v, Sm V C nL n0 nc QQ (pc + 1) lv (.int v :: st) M (f v)) : Sm V C nL n0 nc QQ pc lv (.ref b :: st) M (sL L f) := by
  intro H locs ls hlv hh res hr
  have a1 := hC.1
  have a2 := hC.2.1
  exact va_slen a1 a2 hX hbl hbA hh.2.2 hd (kk _ H locs ls hlv hh res hr)
theorem Sm.sci (hC : Cok V C own cc nL n0 ret9 nm) (hX : va_X b L xs (cS C) (cS C).heap) (hbl : b < (cS C).heap.size) (hbA : ¬ Af V b) {i : Int32} {f : Int32 → Option α} (hd : decode cc pc = .ok (.iaload, 1)) (kk : ∀ v, Sm V C nL n0 nc QQ (pc + 1) lv (.int v :: st) M (f v)) : Sm V C nL n0 nc QQ pc lv (.int i :: .ref b :: st) M (sX L xs i f) := by
  unfold sX
  refine Sm.if_ (fun hi => ?_) (fun _ => Sm.none_)
  intro H locs ls hlv hh res hr
  have a1 := hC.1
  have a2 := hC.2.1
  exact va_sld a1 a2 hX hbl hbA hh.2.2 (inb_spec hi) hd (kk _ H locs ls hlv hh res hr)
theorem RW.law {rm : Room} {maxL : Nat} (h : rm.cells = 0 ∧ rm.slots = 0 ∧ rm.frames + 1 ≤ room_1.frames ∧ 8 + (maxL + 11) + rm.locals ≤ room_1.locals) : RW rm room_1 maxL 0 0 0 224 :=
  ⟨h.1, h.2.1, h.2.2.1, h.2.2.2, by decide, by decide +kernel, by decide, by decide +kernel⟩
theorem Sm.law1 (hC : Cok V C own code nL 0 ret nm) (hR : cR C = room_1) (ha : cA C = #[Value.ref b]) (hd : decode code pc = .ok (.ireturn, 1)) : Sm V C nL 0 224 (qW C b) pc lv [.int 1] M (some (1, M)) := by
  intro H locs ls hlv hh res hr
  have a1 := hC.1
  have a2 := hC.2.1
  have a3 := hC.2.2.2.2.2.2.2.1
  have a4 := hC.2.2.2.2.2.2.2.2.1
  have a5 := hC.2.2.2.2.2.2.1
  cases hr
  unfold qW
  rw [if_pos rfl]
  refine va_forget (fun q hq => by
    have h9 : V.1 + 1 ≤ q.base := hh.2.2.2.2 q hq
    show (cS C).heap.size ≤ _
    omega) ?_
  refine W.widen (k := 600000) (n := 7302250) (by decide) (by decide +kernel) ?_
  have h := lw_ret (p := C.1) (l := cL C) (e := C.2.2.1) (s := cS C) (m := cM C) (below := cB C) (meth := cMe C) (c := cC C) (b := b) a1 a2 a3 a4 (pc := pc) (H := H) (ls := ls) hd
  rw [← ha, ← hR] at h
  exact h
end LAW
theorem d_law_0 : decode code 0 = .ok (.new 7, 3) := by decide +kernel
theorem d_law_3 : decode code 3 = .ok (.dup, 1) := by decide +kernel
theorem d_law_4 : decode code 4 = .ok (.invokespecial 9, 3) := by decide +kernel
theorem d_law_7 : decode code 7 = .ok (.astore_n 1, 1) := by decide +kernel
theorem d_law_8 : decode code 8 = .ok (.new 10, 3) := by decide +kernel
theorem d_law_11 : decode code 11 = .ok (.dup, 1) := by decide +kernel
theorem d_law_12 : decode code 12 = .ok (.invokespecial 12, 3) := by decide +kernel
theorem d_law_15 : decode code 15 = .ok (.astore_n 2, 1) := by decide +kernel
theorem d_law_16 : decode code 16 = .ok (.iconst 0, 1) := by decide +kernel
theorem d_law_17 : decode code 17 = .ok (.istore_n 3, 1) := by decide +kernel
theorem d_law_18 : decode code 18 = .ok (.iload_n 3, 1) := by decide +kernel
theorem d_law_19 : decode code 19 = .ok (.aload_n 0, 1) := by decide +kernel
theorem d_law_20 : decode code 20 = .ok (.arraylength, 1) := by decide +kernel
theorem d_law_21 : decode code 21 = .ok (.iconst 5, 1) := by decide +kernel
theorem d_law_22 : decode code 22 = .ok (.isub, 1) := by decide +kernel
theorem d_law_23 : decode code 23 = .ok (.if_icmp .gt 1128, 3) := by decide +kernel
theorem d_law_26 : decode code 26 = .ok (.aload_n 0, 1) := by decide +kernel
theorem d_law_27 : decode code 27 = .ok (.iload_n 3, 1) := by decide +kernel
theorem d_law_28 : decode code 28 = .ok (.iaload, 1) := by decide +kernel
theorem d_law_29 : decode code 29 = .ok (.bipush 31, 2) := by decide +kernel
theorem d_law_31 : decode code 31 = .ok (.iand, 1) := by decide +kernel
theorem d_law_32 : decode code 32 = .ok (.tableswitch 1113 0 30 #[140, 183, 236, 269, 302, 335, 348, 381, 424, 447, 480, 513, 546, 569, 612, 645, 668, 701, 744, 787, 830, 853, 886, 919, 932, 955, 988, 1011, 1024, 1047, 1090], 140) := by decide +kernel
theorem d_law_172 : decode code 172 = .ok (.aload_n 1, 1) := by decide +kernel
theorem d_law_173 : decode code 173 = .ok (.aload_n 0, 1) := by decide +kernel
theorem d_law_174 : decode code 174 = .ok (.iload_n 3, 1) := by decide +kernel
theorem d_law_175 : decode code 175 = .ok (.iconst 1, 1) := by decide +kernel
theorem d_law_176 : decode code 176 = .ok (.iadd, 1) := by decide +kernel
theorem d_law_177 : decode code 177 = .ok (.iaload, 1) := by decide +kernel
theorem d_law_178 : decode code 178 = .ok (.aload_n 0, 1) := by decide +kernel
theorem d_law_179 : decode code 179 = .ok (.iload_n 3, 1) := by decide +kernel
theorem d_law_180 : decode code 180 = .ok (.iconst 2, 1) := by decide +kernel
theorem d_law_181 : decode code 181 = .ok (.iadd, 1) := by decide +kernel
theorem d_law_182 : decode code 182 = .ok (.iaload, 1) := by decide +kernel
theorem d_law_183 : decode code 183 = .ok (.aload_n 0, 1) := by decide +kernel
theorem d_law_184 : decode code 184 = .ok (.iload_n 3, 1) := by decide +kernel
theorem d_law_185 : decode code 185 = .ok (.iconst 3, 1) := by decide +kernel
theorem d_law_186 : decode code 186 = .ok (.iadd, 1) := by decide +kernel
theorem d_law_187 : decode code 187 = .ok (.iaload, 1) := by decide +kernel
theorem d_law_188 : decode code 188 = .ok (.invokevirtual 13, 3) := by decide +kernel
theorem d_law_191 : decode code 191 = .ok (.aload_n 2, 1) := by decide +kernel
theorem d_law_192 : decode code 192 = .ok (.aload_n 0, 1) := by decide +kernel
theorem d_law_193 : decode code 193 = .ok (.iload_n 3, 1) := by decide +kernel
theorem d_law_194 : decode code 194 = .ok (.iconst 1, 1) := by decide +kernel
theorem d_law_195 : decode code 195 = .ok (.iadd, 1) := by decide +kernel
theorem d_law_196 : decode code 196 = .ok (.iaload, 1) := by decide +kernel
theorem d_law_197 : decode code 197 = .ok (.aload_n 0, 1) := by decide +kernel
theorem d_law_198 : decode code 198 = .ok (.iload_n 3, 1) := by decide +kernel
theorem d_law_199 : decode code 199 = .ok (.iconst 2, 1) := by decide +kernel
theorem d_law_200 : decode code 200 = .ok (.iadd, 1) := by decide +kernel
theorem d_law_201 : decode code 201 = .ok (.iaload, 1) := by decide +kernel
theorem d_law_202 : decode code 202 = .ok (.aload_n 0, 1) := by decide +kernel
theorem d_law_203 : decode code 203 = .ok (.iload_n 3, 1) := by decide +kernel
theorem d_law_204 : decode code 204 = .ok (.iconst 3, 1) := by decide +kernel
theorem d_law_205 : decode code 205 = .ok (.iadd, 1) := by decide +kernel
theorem d_law_206 : decode code 206 = .ok (.iaload, 1) := by decide +kernel
theorem d_law_207 : decode code 207 = .ok (.invokevirtual 17, 3) := by decide +kernel
theorem d_law_210 : decode code 210 = .ok (.if_icmp .eq 935, 3) := by decide +kernel
theorem d_law_213 : decode code 213 = .ok (.iconst 0, 1) := by decide +kernel
theorem d_law_214 : decode code 214 = .ok (.ireturn, 1) := by decide +kernel
theorem d_law_215 : decode code 215 = .ok (.aload_n 1, 1) := by decide +kernel
theorem d_law_216 : decode code 216 = .ok (.aload_n 0, 1) := by decide +kernel
theorem d_law_217 : decode code 217 = .ok (.iload_n 3, 1) := by decide +kernel
theorem d_law_218 : decode code 218 = .ok (.iconst 1, 1) := by decide +kernel
theorem d_law_219 : decode code 219 = .ok (.iadd, 1) := by decide +kernel
theorem d_law_220 : decode code 220 = .ok (.iaload, 1) := by decide +kernel
theorem d_law_221 : decode code 221 = .ok (.aload_n 0, 1) := by decide +kernel
theorem d_law_222 : decode code 222 = .ok (.iload_n 3, 1) := by decide +kernel
theorem d_law_223 : decode code 223 = .ok (.iconst 2, 1) := by decide +kernel
theorem d_law_224 : decode code 224 = .ok (.iadd, 1) := by decide +kernel
theorem d_law_225 : decode code 225 = .ok (.iaload, 1) := by decide +kernel
theorem d_law_226 : decode code 226 = .ok (.aload_n 0, 1) := by decide +kernel
theorem d_law_227 : decode code 227 = .ok (.iload_n 3, 1) := by decide +kernel
theorem d_law_228 : decode code 228 = .ok (.iconst 3, 1) := by decide +kernel
theorem d_law_229 : decode code 229 = .ok (.iadd, 1) := by decide +kernel
theorem d_law_230 : decode code 230 = .ok (.iaload, 1) := by decide +kernel
theorem d_law_231 : decode code 231 = .ok (.aload_n 0, 1) := by decide +kernel
theorem d_law_232 : decode code 232 = .ok (.iload_n 3, 1) := by decide +kernel
theorem d_law_233 : decode code 233 = .ok (.iconst 4, 1) := by decide +kernel
theorem d_law_234 : decode code 234 = .ok (.iadd, 1) := by decide +kernel
theorem d_law_235 : decode code 235 = .ok (.iaload, 1) := by decide +kernel
theorem d_law_236 : decode code 236 = .ok (.invokevirtual 18, 3) := by decide +kernel
theorem d_law_239 : decode code 239 = .ok (.aload_n 2, 1) := by decide +kernel
theorem d_law_240 : decode code 240 = .ok (.aload_n 0, 1) := by decide +kernel
theorem d_law_241 : decode code 241 = .ok (.iload_n 3, 1) := by decide +kernel
theorem d_law_242 : decode code 242 = .ok (.iconst 1, 1) := by decide +kernel
theorem d_law_243 : decode code 243 = .ok (.iadd, 1) := by decide +kernel
theorem d_law_244 : decode code 244 = .ok (.iaload, 1) := by decide +kernel
theorem d_law_245 : decode code 245 = .ok (.aload_n 0, 1) := by decide +kernel
theorem d_law_246 : decode code 246 = .ok (.iload_n 3, 1) := by decide +kernel
theorem d_law_247 : decode code 247 = .ok (.iconst 2, 1) := by decide +kernel
theorem d_law_248 : decode code 248 = .ok (.iadd, 1) := by decide +kernel
theorem d_law_249 : decode code 249 = .ok (.iaload, 1) := by decide +kernel
theorem d_law_250 : decode code 250 = .ok (.aload_n 0, 1) := by decide +kernel
theorem d_law_251 : decode code 251 = .ok (.iload_n 3, 1) := by decide +kernel
theorem d_law_252 : decode code 252 = .ok (.iconst 3, 1) := by decide +kernel
theorem d_law_253 : decode code 253 = .ok (.iadd, 1) := by decide +kernel
theorem d_law_254 : decode code 254 = .ok (.iaload, 1) := by decide +kernel
theorem d_law_255 : decode code 255 = .ok (.aload_n 0, 1) := by decide +kernel
theorem d_law_256 : decode code 256 = .ok (.iload_n 3, 1) := by decide +kernel
theorem d_law_257 : decode code 257 = .ok (.iconst 4, 1) := by decide +kernel
theorem d_law_258 : decode code 258 = .ok (.iadd, 1) := by decide +kernel
theorem d_law_259 : decode code 259 = .ok (.iaload, 1) := by decide +kernel
theorem d_law_260 : decode code 260 = .ok (.invokevirtual 22, 3) := by decide +kernel
theorem d_law_263 : decode code 263 = .ok (.if_icmp .eq 882, 3) := by decide +kernel
theorem d_law_266 : decode code 266 = .ok (.iconst 0, 1) := by decide +kernel
theorem d_law_267 : decode code 267 = .ok (.ireturn, 1) := by decide +kernel
theorem d_law_268 : decode code 268 = .ok (.aload_n 1, 1) := by decide +kernel
theorem d_law_269 : decode code 269 = .ok (.aload_n 0, 1) := by decide +kernel
theorem d_law_270 : decode code 270 = .ok (.iload_n 3, 1) := by decide +kernel
theorem d_law_271 : decode code 271 = .ok (.iconst 1, 1) := by decide +kernel
theorem d_law_272 : decode code 272 = .ok (.iadd, 1) := by decide +kernel
theorem d_law_273 : decode code 273 = .ok (.iaload, 1) := by decide +kernel
theorem d_law_274 : decode code 274 = .ok (.aload_n 0, 1) := by decide +kernel
theorem d_law_275 : decode code 275 = .ok (.iload_n 3, 1) := by decide +kernel
theorem d_law_276 : decode code 276 = .ok (.iconst 2, 1) := by decide +kernel
theorem d_law_277 : decode code 277 = .ok (.iadd, 1) := by decide +kernel
theorem d_law_278 : decode code 278 = .ok (.iaload, 1) := by decide +kernel
theorem d_law_279 : decode code 279 = .ok (.invokevirtual 23, 3) := by decide +kernel
theorem d_law_282 : decode code 282 = .ok (.aload_n 2, 1) := by decide +kernel
theorem d_law_283 : decode code 283 = .ok (.aload_n 0, 1) := by decide +kernel
theorem d_law_284 : decode code 284 = .ok (.iload_n 3, 1) := by decide +kernel
theorem d_law_285 : decode code 285 = .ok (.iconst 1, 1) := by decide +kernel
theorem d_law_286 : decode code 286 = .ok (.iadd, 1) := by decide +kernel
theorem d_law_287 : decode code 287 = .ok (.iaload, 1) := by decide +kernel
theorem d_law_288 : decode code 288 = .ok (.aload_n 0, 1) := by decide +kernel
theorem d_law_289 : decode code 289 = .ok (.iload_n 3, 1) := by decide +kernel
theorem d_law_290 : decode code 290 = .ok (.iconst 2, 1) := by decide +kernel
theorem d_law_291 : decode code 291 = .ok (.iadd, 1) := by decide +kernel
theorem d_law_292 : decode code 292 = .ok (.iaload, 1) := by decide +kernel
theorem d_law_293 : decode code 293 = .ok (.invokevirtual 27, 3) := by decide +kernel
theorem d_law_296 : decode code 296 = .ok (.if_icmp .eq 849, 3) := by decide +kernel
theorem d_law_299 : decode code 299 = .ok (.iconst 0, 1) := by decide +kernel
theorem d_law_300 : decode code 300 = .ok (.ireturn, 1) := by decide +kernel
theorem d_law_301 : decode code 301 = .ok (.aload_n 1, 1) := by decide +kernel
theorem d_law_302 : decode code 302 = .ok (.aload_n 0, 1) := by decide +kernel
theorem d_law_303 : decode code 303 = .ok (.iload_n 3, 1) := by decide +kernel
theorem d_law_304 : decode code 304 = .ok (.iconst 1, 1) := by decide +kernel
theorem d_law_305 : decode code 305 = .ok (.iadd, 1) := by decide +kernel
theorem d_law_306 : decode code 306 = .ok (.iaload, 1) := by decide +kernel
theorem d_law_307 : decode code 307 = .ok (.aload_n 0, 1) := by decide +kernel
theorem d_law_308 : decode code 308 = .ok (.iload_n 3, 1) := by decide +kernel
theorem d_law_309 : decode code 309 = .ok (.iconst 2, 1) := by decide +kernel
theorem d_law_310 : decode code 310 = .ok (.iadd, 1) := by decide +kernel
theorem d_law_311 : decode code 311 = .ok (.iaload, 1) := by decide +kernel
theorem d_law_312 : decode code 312 = .ok (.invokevirtual 28, 3) := by decide +kernel
theorem d_law_315 : decode code 315 = .ok (.aload_n 2, 1) := by decide +kernel
theorem d_law_316 : decode code 316 = .ok (.aload_n 0, 1) := by decide +kernel
theorem d_law_317 : decode code 317 = .ok (.iload_n 3, 1) := by decide +kernel
theorem d_law_318 : decode code 318 = .ok (.iconst 1, 1) := by decide +kernel
theorem d_law_319 : decode code 319 = .ok (.iadd, 1) := by decide +kernel
theorem d_law_320 : decode code 320 = .ok (.iaload, 1) := by decide +kernel
theorem d_law_321 : decode code 321 = .ok (.aload_n 0, 1) := by decide +kernel
theorem d_law_322 : decode code 322 = .ok (.iload_n 3, 1) := by decide +kernel
theorem d_law_323 : decode code 323 = .ok (.iconst 2, 1) := by decide +kernel
theorem d_law_324 : decode code 324 = .ok (.iadd, 1) := by decide +kernel
theorem d_law_325 : decode code 325 = .ok (.iaload, 1) := by decide +kernel
theorem d_law_326 : decode code 326 = .ok (.invokevirtual 31, 3) := by decide +kernel
theorem d_law_329 : decode code 329 = .ok (.if_icmp .eq 816, 3) := by decide +kernel
theorem d_law_332 : decode code 332 = .ok (.iconst 0, 1) := by decide +kernel
theorem d_law_333 : decode code 333 = .ok (.ireturn, 1) := by decide +kernel
theorem d_law_334 : decode code 334 = .ok (.aload_n 1, 1) := by decide +kernel
theorem d_law_335 : decode code 335 = .ok (.aload_n 0, 1) := by decide +kernel
theorem d_law_336 : decode code 336 = .ok (.iload_n 3, 1) := by decide +kernel
theorem d_law_337 : decode code 337 = .ok (.iconst 1, 1) := by decide +kernel
theorem d_law_338 : decode code 338 = .ok (.iadd, 1) := by decide +kernel
theorem d_law_339 : decode code 339 = .ok (.iaload, 1) := by decide +kernel
theorem d_law_340 : decode code 340 = .ok (.aload_n 0, 1) := by decide +kernel
theorem d_law_341 : decode code 341 = .ok (.iload_n 3, 1) := by decide +kernel
theorem d_law_342 : decode code 342 = .ok (.iconst 2, 1) := by decide +kernel
theorem d_law_343 : decode code 343 = .ok (.iadd, 1) := by decide +kernel
theorem d_law_344 : decode code 344 = .ok (.iaload, 1) := by decide +kernel
theorem d_law_345 : decode code 345 = .ok (.invokevirtual 32, 3) := by decide +kernel
theorem d_law_348 : decode code 348 = .ok (.aload_n 2, 1) := by decide +kernel
theorem d_law_349 : decode code 349 = .ok (.aload_n 0, 1) := by decide +kernel
theorem d_law_350 : decode code 350 = .ok (.iload_n 3, 1) := by decide +kernel
theorem d_law_351 : decode code 351 = .ok (.iconst 1, 1) := by decide +kernel
theorem d_law_352 : decode code 352 = .ok (.iadd, 1) := by decide +kernel
theorem d_law_353 : decode code 353 = .ok (.iaload, 1) := by decide +kernel
theorem d_law_354 : decode code 354 = .ok (.aload_n 0, 1) := by decide +kernel
theorem d_law_355 : decode code 355 = .ok (.iload_n 3, 1) := by decide +kernel
theorem d_law_356 : decode code 356 = .ok (.iconst 2, 1) := by decide +kernel
theorem d_law_357 : decode code 357 = .ok (.iadd, 1) := by decide +kernel
theorem d_law_358 : decode code 358 = .ok (.iaload, 1) := by decide +kernel
theorem d_law_359 : decode code 359 = .ok (.invokevirtual 35, 3) := by decide +kernel
theorem d_law_362 : decode code 362 = .ok (.if_icmp .eq 783, 3) := by decide +kernel
theorem d_law_365 : decode code 365 = .ok (.iconst 0, 1) := by decide +kernel
theorem d_law_366 : decode code 366 = .ok (.ireturn, 1) := by decide +kernel
theorem d_law_367 : decode code 367 = .ok (.aload_n 1, 1) := by decide +kernel
theorem d_law_368 : decode code 368 = .ok (.invokevirtual 36, 3) := by decide +kernel
theorem d_law_371 : decode code 371 = .ok (.aload_n 2, 1) := by decide +kernel
theorem d_law_372 : decode code 372 = .ok (.invokevirtual 40, 3) := by decide +kernel
theorem d_law_375 : decode code 375 = .ok (.if_icmp .eq 770, 3) := by decide +kernel
theorem d_law_378 : decode code 378 = .ok (.iconst 0, 1) := by decide +kernel
theorem d_law_379 : decode code 379 = .ok (.ireturn, 1) := by decide +kernel
theorem d_law_380 : decode code 380 = .ok (.aload_n 1, 1) := by decide +kernel
theorem d_law_381 : decode code 381 = .ok (.aload_n 0, 1) := by decide +kernel
theorem d_law_382 : decode code 382 = .ok (.iload_n 3, 1) := by decide +kernel
theorem d_law_383 : decode code 383 = .ok (.iconst 1, 1) := by decide +kernel
theorem d_law_384 : decode code 384 = .ok (.iadd, 1) := by decide +kernel
theorem d_law_385 : decode code 385 = .ok (.iaload, 1) := by decide +kernel
theorem d_law_386 : decode code 386 = .ok (.aload_n 0, 1) := by decide +kernel
theorem d_law_387 : decode code 387 = .ok (.iload_n 3, 1) := by decide +kernel
theorem d_law_388 : decode code 388 = .ok (.iconst 2, 1) := by decide +kernel
theorem d_law_389 : decode code 389 = .ok (.iadd, 1) := by decide +kernel
theorem d_law_390 : decode code 390 = .ok (.iaload, 1) := by decide +kernel
theorem d_law_391 : decode code 391 = .ok (.invokevirtual 41, 3) := by decide +kernel
theorem d_law_394 : decode code 394 = .ok (.aload_n 2, 1) := by decide +kernel
theorem d_law_395 : decode code 395 = .ok (.aload_n 0, 1) := by decide +kernel
theorem d_law_396 : decode code 396 = .ok (.iload_n 3, 1) := by decide +kernel
theorem d_law_397 : decode code 397 = .ok (.iconst 1, 1) := by decide +kernel
theorem d_law_398 : decode code 398 = .ok (.iadd, 1) := by decide +kernel
theorem d_law_399 : decode code 399 = .ok (.iaload, 1) := by decide +kernel
theorem d_law_400 : decode code 400 = .ok (.aload_n 0, 1) := by decide +kernel
theorem d_law_401 : decode code 401 = .ok (.iload_n 3, 1) := by decide +kernel
theorem d_law_402 : decode code 402 = .ok (.iconst 2, 1) := by decide +kernel
theorem d_law_403 : decode code 403 = .ok (.iadd, 1) := by decide +kernel
theorem d_law_404 : decode code 404 = .ok (.iaload, 1) := by decide +kernel
theorem d_law_405 : decode code 405 = .ok (.invokevirtual 44, 3) := by decide +kernel
theorem d_law_408 : decode code 408 = .ok (.if_icmp .eq 737, 3) := by decide +kernel
theorem d_law_411 : decode code 411 = .ok (.iconst 0, 1) := by decide +kernel
theorem d_law_412 : decode code 412 = .ok (.ireturn, 1) := by decide +kernel
theorem d_law_413 : decode code 413 = .ok (.aload_n 1, 1) := by decide +kernel
theorem d_law_414 : decode code 414 = .ok (.aload_n 0, 1) := by decide +kernel
theorem d_law_415 : decode code 415 = .ok (.iload_n 3, 1) := by decide +kernel
theorem d_law_416 : decode code 416 = .ok (.iconst 1, 1) := by decide +kernel
theorem d_law_417 : decode code 417 = .ok (.iadd, 1) := by decide +kernel
theorem d_law_418 : decode code 418 = .ok (.iaload, 1) := by decide +kernel
theorem d_law_419 : decode code 419 = .ok (.aload_n 0, 1) := by decide +kernel
theorem d_law_420 : decode code 420 = .ok (.iload_n 3, 1) := by decide +kernel
theorem d_law_421 : decode code 421 = .ok (.iconst 2, 1) := by decide +kernel
theorem d_law_422 : decode code 422 = .ok (.iadd, 1) := by decide +kernel
theorem d_law_423 : decode code 423 = .ok (.iaload, 1) := by decide +kernel
theorem d_law_424 : decode code 424 = .ok (.aload_n 0, 1) := by decide +kernel
theorem d_law_425 : decode code 425 = .ok (.iload_n 3, 1) := by decide +kernel
theorem d_law_426 : decode code 426 = .ok (.iconst 3, 1) := by decide +kernel
theorem d_law_427 : decode code 427 = .ok (.iadd, 1) := by decide +kernel
theorem d_law_428 : decode code 428 = .ok (.iaload, 1) := by decide +kernel
theorem d_law_429 : decode code 429 = .ok (.invokevirtual 45, 3) := by decide +kernel
theorem d_law_432 : decode code 432 = .ok (.aload_n 2, 1) := by decide +kernel
theorem d_law_433 : decode code 433 = .ok (.aload_n 0, 1) := by decide +kernel
theorem d_law_434 : decode code 434 = .ok (.iload_n 3, 1) := by decide +kernel
theorem d_law_435 : decode code 435 = .ok (.iconst 1, 1) := by decide +kernel
theorem d_law_436 : decode code 436 = .ok (.iadd, 1) := by decide +kernel
theorem d_law_437 : decode code 437 = .ok (.iaload, 1) := by decide +kernel
theorem d_law_438 : decode code 438 = .ok (.aload_n 0, 1) := by decide +kernel
theorem d_law_439 : decode code 439 = .ok (.iload_n 3, 1) := by decide +kernel
theorem d_law_440 : decode code 440 = .ok (.iconst 2, 1) := by decide +kernel
theorem d_law_441 : decode code 441 = .ok (.iadd, 1) := by decide +kernel
theorem d_law_442 : decode code 442 = .ok (.iaload, 1) := by decide +kernel
theorem d_law_443 : decode code 443 = .ok (.aload_n 0, 1) := by decide +kernel
theorem d_law_444 : decode code 444 = .ok (.iload_n 3, 1) := by decide +kernel
theorem d_law_445 : decode code 445 = .ok (.iconst 3, 1) := by decide +kernel
theorem d_law_446 : decode code 446 = .ok (.iadd, 1) := by decide +kernel
theorem d_law_447 : decode code 447 = .ok (.iaload, 1) := by decide +kernel
theorem d_law_448 : decode code 448 = .ok (.invokevirtual 48, 3) := by decide +kernel
theorem d_law_451 : decode code 451 = .ok (.if_icmp .eq 694, 3) := by decide +kernel
theorem d_law_454 : decode code 454 = .ok (.iconst 0, 1) := by decide +kernel
theorem d_law_455 : decode code 455 = .ok (.ireturn, 1) := by decide +kernel
theorem d_law_456 : decode code 456 = .ok (.aload_n 1, 1) := by decide +kernel
theorem d_law_457 : decode code 457 = .ok (.aload_n 0, 1) := by decide +kernel
theorem d_law_458 : decode code 458 = .ok (.iload_n 3, 1) := by decide +kernel
theorem d_law_459 : decode code 459 = .ok (.iconst 1, 1) := by decide +kernel
theorem d_law_460 : decode code 460 = .ok (.iadd, 1) := by decide +kernel
theorem d_law_461 : decode code 461 = .ok (.iaload, 1) := by decide +kernel
theorem d_law_462 : decode code 462 = .ok (.invokevirtual 49, 3) := by decide +kernel
theorem d_law_465 : decode code 465 = .ok (.aload_n 2, 1) := by decide +kernel
theorem d_law_466 : decode code 466 = .ok (.aload_n 0, 1) := by decide +kernel
theorem d_law_467 : decode code 467 = .ok (.iload_n 3, 1) := by decide +kernel
theorem d_law_468 : decode code 468 = .ok (.iconst 1, 1) := by decide +kernel
theorem d_law_469 : decode code 469 = .ok (.iadd, 1) := by decide +kernel
theorem d_law_470 : decode code 470 = .ok (.iaload, 1) := by decide +kernel
theorem d_law_471 : decode code 471 = .ok (.invokevirtual 53, 3) := by decide +kernel
theorem d_law_474 : decode code 474 = .ok (.if_icmp .eq 671, 3) := by decide +kernel
theorem d_law_477 : decode code 477 = .ok (.iconst 0, 1) := by decide +kernel
theorem d_law_478 : decode code 478 = .ok (.ireturn, 1) := by decide +kernel
theorem d_law_479 : decode code 479 = .ok (.aload_n 1, 1) := by decide +kernel
theorem d_law_480 : decode code 480 = .ok (.aload_n 0, 1) := by decide +kernel
theorem d_law_481 : decode code 481 = .ok (.iload_n 3, 1) := by decide +kernel
theorem d_law_482 : decode code 482 = .ok (.iconst 1, 1) := by decide +kernel
theorem d_law_483 : decode code 483 = .ok (.iadd, 1) := by decide +kernel
theorem d_law_484 : decode code 484 = .ok (.iaload, 1) := by decide +kernel
theorem d_law_485 : decode code 485 = .ok (.aload_n 0, 1) := by decide +kernel
theorem d_law_486 : decode code 486 = .ok (.iload_n 3, 1) := by decide +kernel
theorem d_law_487 : decode code 487 = .ok (.iconst 2, 1) := by decide +kernel
theorem d_law_488 : decode code 488 = .ok (.iadd, 1) := by decide +kernel
theorem d_law_489 : decode code 489 = .ok (.iaload, 1) := by decide +kernel
theorem d_law_490 : decode code 490 = .ok (.invokevirtual 54, 3) := by decide +kernel
theorem d_law_493 : decode code 493 = .ok (.aload_n 2, 1) := by decide +kernel
theorem d_law_494 : decode code 494 = .ok (.aload_n 0, 1) := by decide +kernel
theorem d_law_495 : decode code 495 = .ok (.iload_n 3, 1) := by decide +kernel
theorem d_law_496 : decode code 496 = .ok (.iconst 1, 1) := by decide +kernel
theorem d_law_497 : decode code 497 = .ok (.iadd, 1) := by decide +kernel
theorem d_law_498 : decode code 498 = .ok (.iaload, 1) := by decide +kernel
theorem d_law_499 : decode code 499 = .ok (.aload_n 0, 1) := by decide +kernel
theorem d_law_500 : decode code 500 = .ok (.iload_n 3, 1) := by decide +kernel
theorem d_law_501 : decode code 501 = .ok (.iconst 2, 1) := by decide +kernel
theorem d_law_502 : decode code 502 = .ok (.iadd, 1) := by decide +kernel
theorem d_law_503 : decode code 503 = .ok (.iaload, 1) := by decide +kernel
theorem d_law_504 : decode code 504 = .ok (.invokevirtual 57, 3) := by decide +kernel
theorem d_law_507 : decode code 507 = .ok (.if_icmp .eq 638, 3) := by decide +kernel
theorem d_law_510 : decode code 510 = .ok (.iconst 0, 1) := by decide +kernel
theorem d_law_511 : decode code 511 = .ok (.ireturn, 1) := by decide +kernel
theorem d_law_512 : decode code 512 = .ok (.aload_n 1, 1) := by decide +kernel
theorem d_law_513 : decode code 513 = .ok (.aload_n 0, 1) := by decide +kernel
theorem d_law_514 : decode code 514 = .ok (.iload_n 3, 1) := by decide +kernel
theorem d_law_515 : decode code 515 = .ok (.iconst 1, 1) := by decide +kernel
theorem d_law_516 : decode code 516 = .ok (.iadd, 1) := by decide +kernel
theorem d_law_517 : decode code 517 = .ok (.iaload, 1) := by decide +kernel
theorem d_law_518 : decode code 518 = .ok (.aload_n 0, 1) := by decide +kernel
theorem d_law_519 : decode code 519 = .ok (.iload_n 3, 1) := by decide +kernel
theorem d_law_520 : decode code 520 = .ok (.iconst 2, 1) := by decide +kernel
theorem d_law_521 : decode code 521 = .ok (.iadd, 1) := by decide +kernel
theorem d_law_522 : decode code 522 = .ok (.iaload, 1) := by decide +kernel
theorem d_law_523 : decode code 523 = .ok (.invokevirtual 58, 3) := by decide +kernel
theorem d_law_526 : decode code 526 = .ok (.aload_n 2, 1) := by decide +kernel
theorem d_law_527 : decode code 527 = .ok (.aload_n 0, 1) := by decide +kernel
theorem d_law_528 : decode code 528 = .ok (.iload_n 3, 1) := by decide +kernel
theorem d_law_529 : decode code 529 = .ok (.iconst 1, 1) := by decide +kernel
theorem d_law_530 : decode code 530 = .ok (.iadd, 1) := by decide +kernel
theorem d_law_531 : decode code 531 = .ok (.iaload, 1) := by decide +kernel
theorem d_law_532 : decode code 532 = .ok (.aload_n 0, 1) := by decide +kernel
theorem d_law_533 : decode code 533 = .ok (.iload_n 3, 1) := by decide +kernel
theorem d_law_534 : decode code 534 = .ok (.iconst 2, 1) := by decide +kernel
theorem d_law_535 : decode code 535 = .ok (.iadd, 1) := by decide +kernel
theorem d_law_536 : decode code 536 = .ok (.iaload, 1) := by decide +kernel
theorem d_law_537 : decode code 537 = .ok (.invokevirtual 61, 3) := by decide +kernel
theorem d_law_540 : decode code 540 = .ok (.if_icmp .eq 605, 3) := by decide +kernel
theorem d_law_543 : decode code 543 = .ok (.iconst 0, 1) := by decide +kernel
theorem d_law_544 : decode code 544 = .ok (.ireturn, 1) := by decide +kernel
theorem d_law_545 : decode code 545 = .ok (.aload_n 1, 1) := by decide +kernel
theorem d_law_546 : decode code 546 = .ok (.aload_n 0, 1) := by decide +kernel
theorem d_law_547 : decode code 547 = .ok (.iload_n 3, 1) := by decide +kernel
theorem d_law_548 : decode code 548 = .ok (.iconst 1, 1) := by decide +kernel
theorem d_law_549 : decode code 549 = .ok (.iadd, 1) := by decide +kernel
theorem d_law_550 : decode code 550 = .ok (.iaload, 1) := by decide +kernel
theorem d_law_551 : decode code 551 = .ok (.aload_n 0, 1) := by decide +kernel
theorem d_law_552 : decode code 552 = .ok (.iload_n 3, 1) := by decide +kernel
theorem d_law_553 : decode code 553 = .ok (.iconst 2, 1) := by decide +kernel
theorem d_law_554 : decode code 554 = .ok (.iadd, 1) := by decide +kernel
theorem d_law_555 : decode code 555 = .ok (.iaload, 1) := by decide +kernel
theorem d_law_556 : decode code 556 = .ok (.invokevirtual 62, 3) := by decide +kernel
theorem d_law_559 : decode code 559 = .ok (.aload_n 2, 1) := by decide +kernel
theorem d_law_560 : decode code 560 = .ok (.aload_n 0, 1) := by decide +kernel
theorem d_law_561 : decode code 561 = .ok (.iload_n 3, 1) := by decide +kernel
theorem d_law_562 : decode code 562 = .ok (.iconst 1, 1) := by decide +kernel
theorem d_law_563 : decode code 563 = .ok (.iadd, 1) := by decide +kernel
theorem d_law_564 : decode code 564 = .ok (.iaload, 1) := by decide +kernel
theorem d_law_565 : decode code 565 = .ok (.aload_n 0, 1) := by decide +kernel
theorem d_law_566 : decode code 566 = .ok (.iload_n 3, 1) := by decide +kernel
theorem d_law_567 : decode code 567 = .ok (.iconst 2, 1) := by decide +kernel
theorem d_law_568 : decode code 568 = .ok (.iadd, 1) := by decide +kernel
theorem d_law_569 : decode code 569 = .ok (.iaload, 1) := by decide +kernel
theorem d_law_570 : decode code 570 = .ok (.invokevirtual 65, 3) := by decide +kernel
theorem d_law_573 : decode code 573 = .ok (.if_icmp .eq 572, 3) := by decide +kernel
theorem d_law_576 : decode code 576 = .ok (.iconst 0, 1) := by decide +kernel
theorem d_law_577 : decode code 577 = .ok (.ireturn, 1) := by decide +kernel
theorem d_law_578 : decode code 578 = .ok (.aload_n 1, 1) := by decide +kernel
theorem d_law_579 : decode code 579 = .ok (.aload_n 0, 1) := by decide +kernel
theorem d_law_580 : decode code 580 = .ok (.iload_n 3, 1) := by decide +kernel
theorem d_law_581 : decode code 581 = .ok (.iconst 1, 1) := by decide +kernel
theorem d_law_582 : decode code 582 = .ok (.iadd, 1) := by decide +kernel
theorem d_law_583 : decode code 583 = .ok (.iaload, 1) := by decide +kernel
theorem d_law_584 : decode code 584 = .ok (.invokevirtual 66, 3) := by decide +kernel
theorem d_law_587 : decode code 587 = .ok (.aload_n 2, 1) := by decide +kernel
theorem d_law_588 : decode code 588 = .ok (.aload_n 0, 1) := by decide +kernel
theorem d_law_589 : decode code 589 = .ok (.iload_n 3, 1) := by decide +kernel
theorem d_law_590 : decode code 590 = .ok (.iconst 1, 1) := by decide +kernel
theorem d_law_591 : decode code 591 = .ok (.iadd, 1) := by decide +kernel
theorem d_law_592 : decode code 592 = .ok (.iaload, 1) := by decide +kernel
theorem d_law_593 : decode code 593 = .ok (.invokevirtual 69, 3) := by decide +kernel
theorem d_law_596 : decode code 596 = .ok (.if_icmp .eq 549, 3) := by decide +kernel
theorem d_law_599 : decode code 599 = .ok (.iconst 0, 1) := by decide +kernel
theorem d_law_600 : decode code 600 = .ok (.ireturn, 1) := by decide +kernel
theorem d_law_601 : decode code 601 = .ok (.aload_n 1, 1) := by decide +kernel
theorem d_law_602 : decode code 602 = .ok (.aload_n 0, 1) := by decide +kernel
theorem d_law_603 : decode code 603 = .ok (.iload_n 3, 1) := by decide +kernel
theorem d_law_604 : decode code 604 = .ok (.iconst 1, 1) := by decide +kernel
theorem d_law_605 : decode code 605 = .ok (.iadd, 1) := by decide +kernel
theorem d_law_606 : decode code 606 = .ok (.iaload, 1) := by decide +kernel
theorem d_law_607 : decode code 607 = .ok (.aload_n 0, 1) := by decide +kernel
theorem d_law_608 : decode code 608 = .ok (.iload_n 3, 1) := by decide +kernel
theorem d_law_609 : decode code 609 = .ok (.iconst 2, 1) := by decide +kernel
theorem d_law_610 : decode code 610 = .ok (.iadd, 1) := by decide +kernel
theorem d_law_611 : decode code 611 = .ok (.iaload, 1) := by decide +kernel
theorem d_law_612 : decode code 612 = .ok (.aload_n 0, 1) := by decide +kernel
theorem d_law_613 : decode code 613 = .ok (.iload_n 3, 1) := by decide +kernel
theorem d_law_614 : decode code 614 = .ok (.iconst 3, 1) := by decide +kernel
theorem d_law_615 : decode code 615 = .ok (.iadd, 1) := by decide +kernel
theorem d_law_616 : decode code 616 = .ok (.iaload, 1) := by decide +kernel
theorem d_law_617 : decode code 617 = .ok (.invokevirtual 70, 3) := by decide +kernel
theorem d_law_620 : decode code 620 = .ok (.aload_n 2, 1) := by decide +kernel
theorem d_law_621 : decode code 621 = .ok (.aload_n 0, 1) := by decide +kernel
theorem d_law_622 : decode code 622 = .ok (.iload_n 3, 1) := by decide +kernel
theorem d_law_623 : decode code 623 = .ok (.iconst 1, 1) := by decide +kernel
theorem d_law_624 : decode code 624 = .ok (.iadd, 1) := by decide +kernel
theorem d_law_625 : decode code 625 = .ok (.iaload, 1) := by decide +kernel
theorem d_law_626 : decode code 626 = .ok (.aload_n 0, 1) := by decide +kernel
theorem d_law_627 : decode code 627 = .ok (.iload_n 3, 1) := by decide +kernel
theorem d_law_628 : decode code 628 = .ok (.iconst 2, 1) := by decide +kernel
theorem d_law_629 : decode code 629 = .ok (.iadd, 1) := by decide +kernel
theorem d_law_630 : decode code 630 = .ok (.iaload, 1) := by decide +kernel
theorem d_law_631 : decode code 631 = .ok (.aload_n 0, 1) := by decide +kernel
theorem d_law_632 : decode code 632 = .ok (.iload_n 3, 1) := by decide +kernel
theorem d_law_633 : decode code 633 = .ok (.iconst 3, 1) := by decide +kernel
theorem d_law_634 : decode code 634 = .ok (.iadd, 1) := by decide +kernel
theorem d_law_635 : decode code 635 = .ok (.iaload, 1) := by decide +kernel
theorem d_law_636 : decode code 636 = .ok (.invokevirtual 73, 3) := by decide +kernel
theorem d_law_639 : decode code 639 = .ok (.if_icmp .eq 506, 3) := by decide +kernel
theorem d_law_642 : decode code 642 = .ok (.iconst 0, 1) := by decide +kernel
theorem d_law_643 : decode code 643 = .ok (.ireturn, 1) := by decide +kernel
theorem d_law_644 : decode code 644 = .ok (.aload_n 1, 1) := by decide +kernel
theorem d_law_645 : decode code 645 = .ok (.aload_n 0, 1) := by decide +kernel
theorem d_law_646 : decode code 646 = .ok (.iload_n 3, 1) := by decide +kernel
theorem d_law_647 : decode code 647 = .ok (.iconst 1, 1) := by decide +kernel
theorem d_law_648 : decode code 648 = .ok (.iadd, 1) := by decide +kernel
theorem d_law_649 : decode code 649 = .ok (.iaload, 1) := by decide +kernel
theorem d_law_650 : decode code 650 = .ok (.aload_n 0, 1) := by decide +kernel
theorem d_law_651 : decode code 651 = .ok (.iload_n 3, 1) := by decide +kernel
theorem d_law_652 : decode code 652 = .ok (.iconst 2, 1) := by decide +kernel
theorem d_law_653 : decode code 653 = .ok (.iadd, 1) := by decide +kernel
theorem d_law_654 : decode code 654 = .ok (.iaload, 1) := by decide +kernel
theorem d_law_655 : decode code 655 = .ok (.invokevirtual 74, 3) := by decide +kernel
theorem d_law_658 : decode code 658 = .ok (.aload_n 2, 1) := by decide +kernel
theorem d_law_659 : decode code 659 = .ok (.aload_n 0, 1) := by decide +kernel
theorem d_law_660 : decode code 660 = .ok (.iload_n 3, 1) := by decide +kernel
theorem d_law_661 : decode code 661 = .ok (.iconst 1, 1) := by decide +kernel
theorem d_law_662 : decode code 662 = .ok (.iadd, 1) := by decide +kernel
theorem d_law_663 : decode code 663 = .ok (.iaload, 1) := by decide +kernel
theorem d_law_664 : decode code 664 = .ok (.aload_n 0, 1) := by decide +kernel
theorem d_law_665 : decode code 665 = .ok (.iload_n 3, 1) := by decide +kernel
theorem d_law_666 : decode code 666 = .ok (.iconst 2, 1) := by decide +kernel
theorem d_law_667 : decode code 667 = .ok (.iadd, 1) := by decide +kernel
theorem d_law_668 : decode code 668 = .ok (.iaload, 1) := by decide +kernel
theorem d_law_669 : decode code 669 = .ok (.invokevirtual 77, 3) := by decide +kernel
theorem d_law_672 : decode code 672 = .ok (.if_icmp .eq 473, 3) := by decide +kernel
theorem d_law_675 : decode code 675 = .ok (.iconst 0, 1) := by decide +kernel
theorem d_law_676 : decode code 676 = .ok (.ireturn, 1) := by decide +kernel
theorem d_law_677 : decode code 677 = .ok (.aload_n 1, 1) := by decide +kernel
theorem d_law_678 : decode code 678 = .ok (.aload_n 0, 1) := by decide +kernel
theorem d_law_679 : decode code 679 = .ok (.iload_n 3, 1) := by decide +kernel
theorem d_law_680 : decode code 680 = .ok (.iconst 1, 1) := by decide +kernel
theorem d_law_681 : decode code 681 = .ok (.iadd, 1) := by decide +kernel
theorem d_law_682 : decode code 682 = .ok (.iaload, 1) := by decide +kernel
theorem d_law_683 : decode code 683 = .ok (.invokevirtual 78, 3) := by decide +kernel
theorem d_law_686 : decode code 686 = .ok (.aload_n 2, 1) := by decide +kernel
theorem d_law_687 : decode code 687 = .ok (.aload_n 0, 1) := by decide +kernel
theorem d_law_688 : decode code 688 = .ok (.iload_n 3, 1) := by decide +kernel
theorem d_law_689 : decode code 689 = .ok (.iconst 1, 1) := by decide +kernel
theorem d_law_690 : decode code 690 = .ok (.iadd, 1) := by decide +kernel
theorem d_law_691 : decode code 691 = .ok (.iaload, 1) := by decide +kernel
theorem d_law_692 : decode code 692 = .ok (.invokevirtual 81, 3) := by decide +kernel
theorem d_law_695 : decode code 695 = .ok (.if_icmp .eq 450, 3) := by decide +kernel
theorem d_law_698 : decode code 698 = .ok (.iconst 0, 1) := by decide +kernel
theorem d_law_699 : decode code 699 = .ok (.ireturn, 1) := by decide +kernel
theorem d_law_700 : decode code 700 = .ok (.aload_n 1, 1) := by decide +kernel
theorem d_law_701 : decode code 701 = .ok (.aload_n 0, 1) := by decide +kernel
theorem d_law_702 : decode code 702 = .ok (.iload_n 3, 1) := by decide +kernel
theorem d_law_703 : decode code 703 = .ok (.iconst 1, 1) := by decide +kernel
theorem d_law_704 : decode code 704 = .ok (.iadd, 1) := by decide +kernel
theorem d_law_705 : decode code 705 = .ok (.iaload, 1) := by decide +kernel
theorem d_law_706 : decode code 706 = .ok (.aload_n 0, 1) := by decide +kernel
theorem d_law_707 : decode code 707 = .ok (.iload_n 3, 1) := by decide +kernel
theorem d_law_708 : decode code 708 = .ok (.iconst 2, 1) := by decide +kernel
theorem d_law_709 : decode code 709 = .ok (.iadd, 1) := by decide +kernel
theorem d_law_710 : decode code 710 = .ok (.iaload, 1) := by decide +kernel
theorem d_law_711 : decode code 711 = .ok (.invokevirtual 82, 3) := by decide +kernel
theorem d_law_714 : decode code 714 = .ok (.aload_n 2, 1) := by decide +kernel
theorem d_law_715 : decode code 715 = .ok (.aload_n 0, 1) := by decide +kernel
theorem d_law_716 : decode code 716 = .ok (.iload_n 3, 1) := by decide +kernel
theorem d_law_717 : decode code 717 = .ok (.iconst 1, 1) := by decide +kernel
theorem d_law_718 : decode code 718 = .ok (.iadd, 1) := by decide +kernel
theorem d_law_719 : decode code 719 = .ok (.iaload, 1) := by decide +kernel
theorem d_law_720 : decode code 720 = .ok (.aload_n 0, 1) := by decide +kernel
theorem d_law_721 : decode code 721 = .ok (.iload_n 3, 1) := by decide +kernel
theorem d_law_722 : decode code 722 = .ok (.iconst 2, 1) := by decide +kernel
theorem d_law_723 : decode code 723 = .ok (.iadd, 1) := by decide +kernel
theorem d_law_724 : decode code 724 = .ok (.iaload, 1) := by decide +kernel
theorem d_law_725 : decode code 725 = .ok (.invokevirtual 85, 3) := by decide +kernel
theorem d_law_728 : decode code 728 = .ok (.if_icmp .eq 417, 3) := by decide +kernel
theorem d_law_731 : decode code 731 = .ok (.iconst 0, 1) := by decide +kernel
theorem d_law_732 : decode code 732 = .ok (.ireturn, 1) := by decide +kernel
theorem d_law_733 : decode code 733 = .ok (.aload_n 1, 1) := by decide +kernel
theorem d_law_734 : decode code 734 = .ok (.aload_n 0, 1) := by decide +kernel
theorem d_law_735 : decode code 735 = .ok (.iload_n 3, 1) := by decide +kernel
theorem d_law_736 : decode code 736 = .ok (.iconst 1, 1) := by decide +kernel
theorem d_law_737 : decode code 737 = .ok (.iadd, 1) := by decide +kernel
theorem d_law_738 : decode code 738 = .ok (.iaload, 1) := by decide +kernel
theorem d_law_739 : decode code 739 = .ok (.aload_n 0, 1) := by decide +kernel
theorem d_law_740 : decode code 740 = .ok (.iload_n 3, 1) := by decide +kernel
theorem d_law_741 : decode code 741 = .ok (.iconst 2, 1) := by decide +kernel
theorem d_law_742 : decode code 742 = .ok (.iadd, 1) := by decide +kernel
theorem d_law_743 : decode code 743 = .ok (.iaload, 1) := by decide +kernel
theorem d_law_744 : decode code 744 = .ok (.aload_n 0, 1) := by decide +kernel
theorem d_law_745 : decode code 745 = .ok (.iload_n 3, 1) := by decide +kernel
theorem d_law_746 : decode code 746 = .ok (.iconst 3, 1) := by decide +kernel
theorem d_law_747 : decode code 747 = .ok (.iadd, 1) := by decide +kernel
theorem d_law_748 : decode code 748 = .ok (.iaload, 1) := by decide +kernel
theorem d_law_749 : decode code 749 = .ok (.invokevirtual 86, 3) := by decide +kernel
theorem d_law_752 : decode code 752 = .ok (.aload_n 2, 1) := by decide +kernel
theorem d_law_753 : decode code 753 = .ok (.aload_n 0, 1) := by decide +kernel
theorem d_law_754 : decode code 754 = .ok (.iload_n 3, 1) := by decide +kernel
theorem d_law_755 : decode code 755 = .ok (.iconst 1, 1) := by decide +kernel
theorem d_law_756 : decode code 756 = .ok (.iadd, 1) := by decide +kernel
theorem d_law_757 : decode code 757 = .ok (.iaload, 1) := by decide +kernel
theorem d_law_758 : decode code 758 = .ok (.aload_n 0, 1) := by decide +kernel
theorem d_law_759 : decode code 759 = .ok (.iload_n 3, 1) := by decide +kernel
theorem d_law_760 : decode code 760 = .ok (.iconst 2, 1) := by decide +kernel
theorem d_law_761 : decode code 761 = .ok (.iadd, 1) := by decide +kernel
theorem d_law_762 : decode code 762 = .ok (.iaload, 1) := by decide +kernel
theorem d_law_763 : decode code 763 = .ok (.aload_n 0, 1) := by decide +kernel
theorem d_law_764 : decode code 764 = .ok (.iload_n 3, 1) := by decide +kernel
theorem d_law_765 : decode code 765 = .ok (.iconst 3, 1) := by decide +kernel
theorem d_law_766 : decode code 766 = .ok (.iadd, 1) := by decide +kernel
theorem d_law_767 : decode code 767 = .ok (.iaload, 1) := by decide +kernel
theorem d_law_768 : decode code 768 = .ok (.invokevirtual 89, 3) := by decide +kernel
theorem d_law_771 : decode code 771 = .ok (.if_icmp .eq 374, 3) := by decide +kernel
theorem d_law_774 : decode code 774 = .ok (.iconst 0, 1) := by decide +kernel
theorem d_law_775 : decode code 775 = .ok (.ireturn, 1) := by decide +kernel
theorem d_law_776 : decode code 776 = .ok (.aload_n 1, 1) := by decide +kernel
theorem d_law_777 : decode code 777 = .ok (.aload_n 0, 1) := by decide +kernel
theorem d_law_778 : decode code 778 = .ok (.iload_n 3, 1) := by decide +kernel
theorem d_law_779 : decode code 779 = .ok (.iconst 1, 1) := by decide +kernel
theorem d_law_780 : decode code 780 = .ok (.iadd, 1) := by decide +kernel
theorem d_law_781 : decode code 781 = .ok (.iaload, 1) := by decide +kernel
theorem d_law_782 : decode code 782 = .ok (.aload_n 0, 1) := by decide +kernel
theorem d_law_783 : decode code 783 = .ok (.iload_n 3, 1) := by decide +kernel
theorem d_law_784 : decode code 784 = .ok (.iconst 2, 1) := by decide +kernel
theorem d_law_785 : decode code 785 = .ok (.iadd, 1) := by decide +kernel
theorem d_law_786 : decode code 786 = .ok (.iaload, 1) := by decide +kernel
theorem d_law_787 : decode code 787 = .ok (.aload_n 0, 1) := by decide +kernel
theorem d_law_788 : decode code 788 = .ok (.iload_n 3, 1) := by decide +kernel
theorem d_law_789 : decode code 789 = .ok (.iconst 3, 1) := by decide +kernel
theorem d_law_790 : decode code 790 = .ok (.iadd, 1) := by decide +kernel
theorem d_law_791 : decode code 791 = .ok (.iaload, 1) := by decide +kernel
theorem d_law_792 : decode code 792 = .ok (.invokevirtual 90, 3) := by decide +kernel
theorem d_law_795 : decode code 795 = .ok (.aload_n 2, 1) := by decide +kernel
theorem d_law_796 : decode code 796 = .ok (.aload_n 0, 1) := by decide +kernel
theorem d_law_797 : decode code 797 = .ok (.iload_n 3, 1) := by decide +kernel
theorem d_law_798 : decode code 798 = .ok (.iconst 1, 1) := by decide +kernel
theorem d_law_799 : decode code 799 = .ok (.iadd, 1) := by decide +kernel
theorem d_law_800 : decode code 800 = .ok (.iaload, 1) := by decide +kernel
theorem d_law_801 : decode code 801 = .ok (.aload_n 0, 1) := by decide +kernel
theorem d_law_802 : decode code 802 = .ok (.iload_n 3, 1) := by decide +kernel
theorem d_law_803 : decode code 803 = .ok (.iconst 2, 1) := by decide +kernel
theorem d_law_804 : decode code 804 = .ok (.iadd, 1) := by decide +kernel
theorem d_law_805 : decode code 805 = .ok (.iaload, 1) := by decide +kernel
theorem d_law_806 : decode code 806 = .ok (.aload_n 0, 1) := by decide +kernel
theorem d_law_807 : decode code 807 = .ok (.iload_n 3, 1) := by decide +kernel
theorem d_law_808 : decode code 808 = .ok (.iconst 3, 1) := by decide +kernel
theorem d_law_809 : decode code 809 = .ok (.iadd, 1) := by decide +kernel
theorem d_law_810 : decode code 810 = .ok (.iaload, 1) := by decide +kernel
theorem d_law_811 : decode code 811 = .ok (.invokevirtual 93, 3) := by decide +kernel
theorem d_law_814 : decode code 814 = .ok (.if_icmp .eq 331, 3) := by decide +kernel
theorem d_law_817 : decode code 817 = .ok (.iconst 0, 1) := by decide +kernel
theorem d_law_818 : decode code 818 = .ok (.ireturn, 1) := by decide +kernel
theorem d_law_819 : decode code 819 = .ok (.aload_n 1, 1) := by decide +kernel
theorem d_law_820 : decode code 820 = .ok (.aload_n 0, 1) := by decide +kernel
theorem d_law_821 : decode code 821 = .ok (.iload_n 3, 1) := by decide +kernel
theorem d_law_822 : decode code 822 = .ok (.iconst 1, 1) := by decide +kernel
theorem d_law_823 : decode code 823 = .ok (.iadd, 1) := by decide +kernel
theorem d_law_824 : decode code 824 = .ok (.iaload, 1) := by decide +kernel
theorem d_law_825 : decode code 825 = .ok (.aload_n 0, 1) := by decide +kernel
theorem d_law_826 : decode code 826 = .ok (.iload_n 3, 1) := by decide +kernel
theorem d_law_827 : decode code 827 = .ok (.iconst 2, 1) := by decide +kernel
theorem d_law_828 : decode code 828 = .ok (.iadd, 1) := by decide +kernel
theorem d_law_829 : decode code 829 = .ok (.iaload, 1) := by decide +kernel
theorem d_law_830 : decode code 830 = .ok (.aload_n 0, 1) := by decide +kernel
theorem d_law_831 : decode code 831 = .ok (.iload_n 3, 1) := by decide +kernel
theorem d_law_832 : decode code 832 = .ok (.iconst 3, 1) := by decide +kernel
theorem d_law_833 : decode code 833 = .ok (.iadd, 1) := by decide +kernel
theorem d_law_834 : decode code 834 = .ok (.iaload, 1) := by decide +kernel
theorem d_law_835 : decode code 835 = .ok (.invokevirtual 94, 3) := by decide +kernel
theorem d_law_838 : decode code 838 = .ok (.aload_n 2, 1) := by decide +kernel
theorem d_law_839 : decode code 839 = .ok (.aload_n 0, 1) := by decide +kernel
theorem d_law_840 : decode code 840 = .ok (.iload_n 3, 1) := by decide +kernel
theorem d_law_841 : decode code 841 = .ok (.iconst 1, 1) := by decide +kernel
theorem d_law_842 : decode code 842 = .ok (.iadd, 1) := by decide +kernel
theorem d_law_843 : decode code 843 = .ok (.iaload, 1) := by decide +kernel
theorem d_law_844 : decode code 844 = .ok (.aload_n 0, 1) := by decide +kernel
theorem d_law_845 : decode code 845 = .ok (.iload_n 3, 1) := by decide +kernel
theorem d_law_846 : decode code 846 = .ok (.iconst 2, 1) := by decide +kernel
theorem d_law_847 : decode code 847 = .ok (.iadd, 1) := by decide +kernel
theorem d_law_848 : decode code 848 = .ok (.iaload, 1) := by decide +kernel
theorem d_law_849 : decode code 849 = .ok (.aload_n 0, 1) := by decide +kernel
theorem d_law_850 : decode code 850 = .ok (.iload_n 3, 1) := by decide +kernel
theorem d_law_851 : decode code 851 = .ok (.iconst 3, 1) := by decide +kernel
theorem d_law_852 : decode code 852 = .ok (.iadd, 1) := by decide +kernel
theorem d_law_853 : decode code 853 = .ok (.iaload, 1) := by decide +kernel
theorem d_law_854 : decode code 854 = .ok (.invokevirtual 97, 3) := by decide +kernel
theorem d_law_857 : decode code 857 = .ok (.if_icmp .eq 288, 3) := by decide +kernel
theorem d_law_860 : decode code 860 = .ok (.iconst 0, 1) := by decide +kernel
theorem d_law_861 : decode code 861 = .ok (.ireturn, 1) := by decide +kernel
theorem d_law_862 : decode code 862 = .ok (.aload_n 1, 1) := by decide +kernel
theorem d_law_863 : decode code 863 = .ok (.aload_n 0, 1) := by decide +kernel
theorem d_law_864 : decode code 864 = .ok (.iload_n 3, 1) := by decide +kernel
theorem d_law_865 : decode code 865 = .ok (.iconst 1, 1) := by decide +kernel
theorem d_law_866 : decode code 866 = .ok (.iadd, 1) := by decide +kernel
theorem d_law_867 : decode code 867 = .ok (.iaload, 1) := by decide +kernel
theorem d_law_868 : decode code 868 = .ok (.invokevirtual 98, 3) := by decide +kernel
theorem d_law_871 : decode code 871 = .ok (.aload_n 2, 1) := by decide +kernel
theorem d_law_872 : decode code 872 = .ok (.aload_n 0, 1) := by decide +kernel
theorem d_law_873 : decode code 873 = .ok (.iload_n 3, 1) := by decide +kernel
theorem d_law_874 : decode code 874 = .ok (.iconst 1, 1) := by decide +kernel
theorem d_law_875 : decode code 875 = .ok (.iadd, 1) := by decide +kernel
theorem d_law_876 : decode code 876 = .ok (.iaload, 1) := by decide +kernel
theorem d_law_877 : decode code 877 = .ok (.invokevirtual 101, 3) := by decide +kernel
theorem d_law_880 : decode code 880 = .ok (.if_icmp .eq 265, 3) := by decide +kernel
theorem d_law_883 : decode code 883 = .ok (.iconst 0, 1) := by decide +kernel
theorem d_law_884 : decode code 884 = .ok (.ireturn, 1) := by decide +kernel
theorem d_law_885 : decode code 885 = .ok (.aload_n 1, 1) := by decide +kernel
theorem d_law_886 : decode code 886 = .ok (.aload_n 0, 1) := by decide +kernel
theorem d_law_887 : decode code 887 = .ok (.iload_n 3, 1) := by decide +kernel
theorem d_law_888 : decode code 888 = .ok (.iconst 1, 1) := by decide +kernel
theorem d_law_889 : decode code 889 = .ok (.iadd, 1) := by decide +kernel
theorem d_law_890 : decode code 890 = .ok (.iaload, 1) := by decide +kernel
theorem d_law_891 : decode code 891 = .ok (.aload_n 0, 1) := by decide +kernel
theorem d_law_892 : decode code 892 = .ok (.iload_n 3, 1) := by decide +kernel
theorem d_law_893 : decode code 893 = .ok (.iconst 2, 1) := by decide +kernel
theorem d_law_894 : decode code 894 = .ok (.iadd, 1) := by decide +kernel
theorem d_law_895 : decode code 895 = .ok (.iaload, 1) := by decide +kernel
theorem d_law_896 : decode code 896 = .ok (.invokevirtual 102, 3) := by decide +kernel
theorem d_law_899 : decode code 899 = .ok (.aload_n 2, 1) := by decide +kernel
theorem d_law_900 : decode code 900 = .ok (.aload_n 0, 1) := by decide +kernel
theorem d_law_901 : decode code 901 = .ok (.iload_n 3, 1) := by decide +kernel
theorem d_law_902 : decode code 902 = .ok (.iconst 1, 1) := by decide +kernel
theorem d_law_903 : decode code 903 = .ok (.iadd, 1) := by decide +kernel
theorem d_law_904 : decode code 904 = .ok (.iaload, 1) := by decide +kernel
theorem d_law_905 : decode code 905 = .ok (.aload_n 0, 1) := by decide +kernel
theorem d_law_906 : decode code 906 = .ok (.iload_n 3, 1) := by decide +kernel
theorem d_law_907 : decode code 907 = .ok (.iconst 2, 1) := by decide +kernel
theorem d_law_908 : decode code 908 = .ok (.iadd, 1) := by decide +kernel
theorem d_law_909 : decode code 909 = .ok (.iaload, 1) := by decide +kernel
theorem d_law_910 : decode code 910 = .ok (.invokevirtual 105, 3) := by decide +kernel
theorem d_law_913 : decode code 913 = .ok (.if_icmp .eq 232, 3) := by decide +kernel
theorem d_law_916 : decode code 916 = .ok (.iconst 0, 1) := by decide +kernel
theorem d_law_917 : decode code 917 = .ok (.ireturn, 1) := by decide +kernel
theorem d_law_918 : decode code 918 = .ok (.aload_n 1, 1) := by decide +kernel
theorem d_law_919 : decode code 919 = .ok (.aload_n 0, 1) := by decide +kernel
theorem d_law_920 : decode code 920 = .ok (.iload_n 3, 1) := by decide +kernel
theorem d_law_921 : decode code 921 = .ok (.iconst 1, 1) := by decide +kernel
theorem d_law_922 : decode code 922 = .ok (.iadd, 1) := by decide +kernel
theorem d_law_923 : decode code 923 = .ok (.iaload, 1) := by decide +kernel
theorem d_law_924 : decode code 924 = .ok (.aload_n 0, 1) := by decide +kernel
theorem d_law_925 : decode code 925 = .ok (.iload_n 3, 1) := by decide +kernel
theorem d_law_926 : decode code 926 = .ok (.iconst 2, 1) := by decide +kernel
theorem d_law_927 : decode code 927 = .ok (.iadd, 1) := by decide +kernel
theorem d_law_928 : decode code 928 = .ok (.iaload, 1) := by decide +kernel
theorem d_law_929 : decode code 929 = .ok (.invokevirtual 106, 3) := by decide +kernel
theorem d_law_932 : decode code 932 = .ok (.aload_n 2, 1) := by decide +kernel
theorem d_law_933 : decode code 933 = .ok (.aload_n 0, 1) := by decide +kernel
theorem d_law_934 : decode code 934 = .ok (.iload_n 3, 1) := by decide +kernel
theorem d_law_935 : decode code 935 = .ok (.iconst 1, 1) := by decide +kernel
theorem d_law_936 : decode code 936 = .ok (.iadd, 1) := by decide +kernel
theorem d_law_937 : decode code 937 = .ok (.iaload, 1) := by decide +kernel
theorem d_law_938 : decode code 938 = .ok (.aload_n 0, 1) := by decide +kernel
theorem d_law_939 : decode code 939 = .ok (.iload_n 3, 1) := by decide +kernel
theorem d_law_940 : decode code 940 = .ok (.iconst 2, 1) := by decide +kernel
theorem d_law_941 : decode code 941 = .ok (.iadd, 1) := by decide +kernel
theorem d_law_942 : decode code 942 = .ok (.iaload, 1) := by decide +kernel
theorem d_law_943 : decode code 943 = .ok (.invokevirtual 109, 3) := by decide +kernel
theorem d_law_946 : decode code 946 = .ok (.if_icmp .eq 199, 3) := by decide +kernel
theorem d_law_949 : decode code 949 = .ok (.iconst 0, 1) := by decide +kernel
theorem d_law_950 : decode code 950 = .ok (.ireturn, 1) := by decide +kernel
theorem d_law_951 : decode code 951 = .ok (.aload_n 1, 1) := by decide +kernel
theorem d_law_952 : decode code 952 = .ok (.invokevirtual 110, 3) := by decide +kernel
theorem d_law_955 : decode code 955 = .ok (.aload_n 2, 1) := by decide +kernel
theorem d_law_956 : decode code 956 = .ok (.invokevirtual 113, 3) := by decide +kernel
theorem d_law_959 : decode code 959 = .ok (.if_icmp .eq 186, 3) := by decide +kernel
theorem d_law_962 : decode code 962 = .ok (.iconst 0, 1) := by decide +kernel
theorem d_law_963 : decode code 963 = .ok (.ireturn, 1) := by decide +kernel
theorem d_law_964 : decode code 964 = .ok (.aload_n 1, 1) := by decide +kernel
theorem d_law_965 : decode code 965 = .ok (.aload_n 0, 1) := by decide +kernel
theorem d_law_966 : decode code 966 = .ok (.iload_n 3, 1) := by decide +kernel
theorem d_law_967 : decode code 967 = .ok (.iconst 1, 1) := by decide +kernel
theorem d_law_968 : decode code 968 = .ok (.iadd, 1) := by decide +kernel
theorem d_law_969 : decode code 969 = .ok (.iaload, 1) := by decide +kernel
theorem d_law_970 : decode code 970 = .ok (.invokevirtual 114, 3) := by decide +kernel
theorem d_law_973 : decode code 973 = .ok (.aload_n 2, 1) := by decide +kernel
theorem d_law_974 : decode code 974 = .ok (.aload_n 0, 1) := by decide +kernel
theorem d_law_975 : decode code 975 = .ok (.iload_n 3, 1) := by decide +kernel
theorem d_law_976 : decode code 976 = .ok (.iconst 1, 1) := by decide +kernel
theorem d_law_977 : decode code 977 = .ok (.iadd, 1) := by decide +kernel
theorem d_law_978 : decode code 978 = .ok (.iaload, 1) := by decide +kernel
theorem d_law_979 : decode code 979 = .ok (.invokevirtual 117, 3) := by decide +kernel
theorem d_law_982 : decode code 982 = .ok (.if_icmp .eq 163, 3) := by decide +kernel
theorem d_law_985 : decode code 985 = .ok (.iconst 0, 1) := by decide +kernel
theorem d_law_986 : decode code 986 = .ok (.ireturn, 1) := by decide +kernel
theorem d_law_987 : decode code 987 = .ok (.aload_n 1, 1) := by decide +kernel
theorem d_law_988 : decode code 988 = .ok (.aload_n 0, 1) := by decide +kernel
theorem d_law_989 : decode code 989 = .ok (.iload_n 3, 1) := by decide +kernel
theorem d_law_990 : decode code 990 = .ok (.iconst 1, 1) := by decide +kernel
theorem d_law_991 : decode code 991 = .ok (.iadd, 1) := by decide +kernel
theorem d_law_992 : decode code 992 = .ok (.iaload, 1) := by decide +kernel
theorem d_law_993 : decode code 993 = .ok (.aload_n 0, 1) := by decide +kernel
theorem d_law_994 : decode code 994 = .ok (.iload_n 3, 1) := by decide +kernel
theorem d_law_995 : decode code 995 = .ok (.iconst 2, 1) := by decide +kernel
theorem d_law_996 : decode code 996 = .ok (.iadd, 1) := by decide +kernel
theorem d_law_997 : decode code 997 = .ok (.iaload, 1) := by decide +kernel
theorem d_law_998 : decode code 998 = .ok (.invokevirtual 118, 3) := by decide +kernel
theorem d_law_1001 : decode code 1001 = .ok (.aload_n 2, 1) := by decide +kernel
theorem d_law_1002 : decode code 1002 = .ok (.aload_n 0, 1) := by decide +kernel
theorem d_law_1003 : decode code 1003 = .ok (.iload_n 3, 1) := by decide +kernel
theorem d_law_1004 : decode code 1004 = .ok (.iconst 1, 1) := by decide +kernel
theorem d_law_1005 : decode code 1005 = .ok (.iadd, 1) := by decide +kernel
theorem d_law_1006 : decode code 1006 = .ok (.iaload, 1) := by decide +kernel
theorem d_law_1007 : decode code 1007 = .ok (.aload_n 0, 1) := by decide +kernel
theorem d_law_1008 : decode code 1008 = .ok (.iload_n 3, 1) := by decide +kernel
theorem d_law_1009 : decode code 1009 = .ok (.iconst 2, 1) := by decide +kernel
theorem d_law_1010 : decode code 1010 = .ok (.iadd, 1) := by decide +kernel
theorem d_law_1011 : decode code 1011 = .ok (.iaload, 1) := by decide +kernel
theorem d_law_1012 : decode code 1012 = .ok (.invokevirtual 121, 3) := by decide +kernel
theorem d_law_1015 : decode code 1015 = .ok (.if_icmp .eq 130, 3) := by decide +kernel
theorem d_law_1018 : decode code 1018 = .ok (.iconst 0, 1) := by decide +kernel
theorem d_law_1019 : decode code 1019 = .ok (.ireturn, 1) := by decide +kernel
theorem d_law_1020 : decode code 1020 = .ok (.aload_n 1, 1) := by decide +kernel
theorem d_law_1021 : decode code 1021 = .ok (.aload_n 0, 1) := by decide +kernel
theorem d_law_1022 : decode code 1022 = .ok (.iload_n 3, 1) := by decide +kernel
theorem d_law_1023 : decode code 1023 = .ok (.iconst 1, 1) := by decide +kernel
theorem d_law_1024 : decode code 1024 = .ok (.iadd, 1) := by decide +kernel
theorem d_law_1025 : decode code 1025 = .ok (.iaload, 1) := by decide +kernel
theorem d_law_1026 : decode code 1026 = .ok (.invokevirtual 122, 3) := by decide +kernel
theorem d_law_1029 : decode code 1029 = .ok (.aload_n 2, 1) := by decide +kernel
theorem d_law_1030 : decode code 1030 = .ok (.aload_n 0, 1) := by decide +kernel
theorem d_law_1031 : decode code 1031 = .ok (.iload_n 3, 1) := by decide +kernel
theorem d_law_1032 : decode code 1032 = .ok (.iconst 1, 1) := by decide +kernel
theorem d_law_1033 : decode code 1033 = .ok (.iadd, 1) := by decide +kernel
theorem d_law_1034 : decode code 1034 = .ok (.iaload, 1) := by decide +kernel
theorem d_law_1035 : decode code 1035 = .ok (.invokevirtual 125, 3) := by decide +kernel
theorem d_law_1038 : decode code 1038 = .ok (.if_icmp .eq 107, 3) := by decide +kernel
theorem d_law_1041 : decode code 1041 = .ok (.iconst 0, 1) := by decide +kernel
theorem d_law_1042 : decode code 1042 = .ok (.ireturn, 1) := by decide +kernel
theorem d_law_1043 : decode code 1043 = .ok (.aload_n 1, 1) := by decide +kernel
theorem d_law_1044 : decode code 1044 = .ok (.invokevirtual 126, 3) := by decide +kernel
theorem d_law_1047 : decode code 1047 = .ok (.aload_n 2, 1) := by decide +kernel
theorem d_law_1048 : decode code 1048 = .ok (.invokevirtual 129, 3) := by decide +kernel
theorem d_law_1051 : decode code 1051 = .ok (.if_icmp .eq 94, 3) := by decide +kernel
theorem d_law_1054 : decode code 1054 = .ok (.iconst 0, 1) := by decide +kernel
theorem d_law_1055 : decode code 1055 = .ok (.ireturn, 1) := by decide +kernel
theorem d_law_1056 : decode code 1056 = .ok (.aload_n 1, 1) := by decide +kernel
theorem d_law_1057 : decode code 1057 = .ok (.aload_n 0, 1) := by decide +kernel
theorem d_law_1058 : decode code 1058 = .ok (.iload_n 3, 1) := by decide +kernel
theorem d_law_1059 : decode code 1059 = .ok (.iconst 1, 1) := by decide +kernel
theorem d_law_1060 : decode code 1060 = .ok (.iadd, 1) := by decide +kernel
theorem d_law_1061 : decode code 1061 = .ok (.iaload, 1) := by decide +kernel
theorem d_law_1062 : decode code 1062 = .ok (.invokevirtual 130, 3) := by decide +kernel
theorem d_law_1065 : decode code 1065 = .ok (.aload_n 2, 1) := by decide +kernel
theorem d_law_1066 : decode code 1066 = .ok (.aload_n 0, 1) := by decide +kernel
theorem d_law_1067 : decode code 1067 = .ok (.iload_n 3, 1) := by decide +kernel
theorem d_law_1068 : decode code 1068 = .ok (.iconst 1, 1) := by decide +kernel
theorem d_law_1069 : decode code 1069 = .ok (.iadd, 1) := by decide +kernel
theorem d_law_1070 : decode code 1070 = .ok (.iaload, 1) := by decide +kernel
theorem d_law_1071 : decode code 1071 = .ok (.invokevirtual 133, 3) := by decide +kernel
theorem d_law_1074 : decode code 1074 = .ok (.if_icmp .eq 71, 3) := by decide +kernel
theorem d_law_1077 : decode code 1077 = .ok (.iconst 0, 1) := by decide +kernel
theorem d_law_1078 : decode code 1078 = .ok (.ireturn, 1) := by decide +kernel
theorem d_law_1079 : decode code 1079 = .ok (.aload_n 1, 1) := by decide +kernel
theorem d_law_1080 : decode code 1080 = .ok (.aload_n 0, 1) := by decide +kernel
theorem d_law_1081 : decode code 1081 = .ok (.iload_n 3, 1) := by decide +kernel
theorem d_law_1082 : decode code 1082 = .ok (.iconst 1, 1) := by decide +kernel
theorem d_law_1083 : decode code 1083 = .ok (.iadd, 1) := by decide +kernel
theorem d_law_1084 : decode code 1084 = .ok (.iaload, 1) := by decide +kernel
theorem d_law_1085 : decode code 1085 = .ok (.aload_n 0, 1) := by decide +kernel
theorem d_law_1086 : decode code 1086 = .ok (.iload_n 3, 1) := by decide +kernel
theorem d_law_1087 : decode code 1087 = .ok (.iconst 2, 1) := by decide +kernel
theorem d_law_1088 : decode code 1088 = .ok (.iadd, 1) := by decide +kernel
theorem d_law_1089 : decode code 1089 = .ok (.iaload, 1) := by decide +kernel
theorem d_law_1090 : decode code 1090 = .ok (.aload_n 0, 1) := by decide +kernel
theorem d_law_1091 : decode code 1091 = .ok (.iload_n 3, 1) := by decide +kernel
theorem d_law_1092 : decode code 1092 = .ok (.iconst 3, 1) := by decide +kernel
theorem d_law_1093 : decode code 1093 = .ok (.iadd, 1) := by decide +kernel
theorem d_law_1094 : decode code 1094 = .ok (.iaload, 1) := by decide +kernel
theorem d_law_1095 : decode code 1095 = .ok (.invokevirtual 134, 3) := by decide +kernel
theorem d_law_1098 : decode code 1098 = .ok (.aload_n 2, 1) := by decide +kernel
theorem d_law_1099 : decode code 1099 = .ok (.aload_n 0, 1) := by decide +kernel
theorem d_law_1100 : decode code 1100 = .ok (.iload_n 3, 1) := by decide +kernel
theorem d_law_1101 : decode code 1101 = .ok (.iconst 1, 1) := by decide +kernel
theorem d_law_1102 : decode code 1102 = .ok (.iadd, 1) := by decide +kernel
theorem d_law_1103 : decode code 1103 = .ok (.iaload, 1) := by decide +kernel
theorem d_law_1104 : decode code 1104 = .ok (.aload_n 0, 1) := by decide +kernel
theorem d_law_1105 : decode code 1105 = .ok (.iload_n 3, 1) := by decide +kernel
theorem d_law_1106 : decode code 1106 = .ok (.iconst 2, 1) := by decide +kernel
theorem d_law_1107 : decode code 1107 = .ok (.iadd, 1) := by decide +kernel
theorem d_law_1108 : decode code 1108 = .ok (.iaload, 1) := by decide +kernel
theorem d_law_1109 : decode code 1109 = .ok (.aload_n 0, 1) := by decide +kernel
theorem d_law_1110 : decode code 1110 = .ok (.iload_n 3, 1) := by decide +kernel
theorem d_law_1111 : decode code 1111 = .ok (.iconst 3, 1) := by decide +kernel
theorem d_law_1112 : decode code 1112 = .ok (.iadd, 1) := by decide +kernel
theorem d_law_1113 : decode code 1113 = .ok (.iaload, 1) := by decide +kernel
theorem d_law_1114 : decode code 1114 = .ok (.invokevirtual 137, 3) := by decide +kernel
theorem d_law_1117 : decode code 1117 = .ok (.if_icmp .eq 28, 3) := by decide +kernel
theorem d_law_1120 : decode code 1120 = .ok (.iconst 0, 1) := by decide +kernel
theorem d_law_1121 : decode code 1121 = .ok (.ireturn, 1) := by decide +kernel
theorem d_law_1122 : decode code 1122 = .ok (.aload_n 1, 1) := by decide +kernel
theorem d_law_1123 : decode code 1123 = .ok (.aload_n 0, 1) := by decide +kernel
theorem d_law_1124 : decode code 1124 = .ok (.iload_n 3, 1) := by decide +kernel
theorem d_law_1125 : decode code 1125 = .ok (.iconst 1, 1) := by decide +kernel
theorem d_law_1126 : decode code 1126 = .ok (.iadd, 1) := by decide +kernel
theorem d_law_1127 : decode code 1127 = .ok (.iaload, 1) := by decide +kernel
theorem d_law_1128 : decode code 1128 = .ok (.invokevirtual 138, 3) := by decide +kernel
theorem d_law_1131 : decode code 1131 = .ok (.aload_n 2, 1) := by decide +kernel
theorem d_law_1132 : decode code 1132 = .ok (.aload_n 0, 1) := by decide +kernel
theorem d_law_1133 : decode code 1133 = .ok (.iload_n 3, 1) := by decide +kernel
theorem d_law_1134 : decode code 1134 = .ok (.iconst 1, 1) := by decide +kernel
theorem d_law_1135 : decode code 1135 = .ok (.iadd, 1) := by decide +kernel
theorem d_law_1136 : decode code 1136 = .ok (.iaload, 1) := by decide +kernel
theorem d_law_1137 : decode code 1137 = .ok (.invokevirtual 141, 3) := by decide +kernel
theorem d_law_1140 : decode code 1140 = .ok (.if_icmp .eq 5, 3) := by decide +kernel
theorem d_law_1143 : decode code 1143 = .ok (.iconst 0, 1) := by decide +kernel
theorem d_law_1144 : decode code 1144 = .ok (.ireturn, 1) := by decide +kernel
theorem d_law_1145 : decode code 1145 = .ok (.iinc 3 5, 3) := by decide +kernel
theorem d_law_1148 : decode code 1148 = .ok (.goto (-1130), 3) := by decide +kernel
theorem d_law_1151 : decode code 1151 = .ok (.iconst 1, 1) := by decide +kernel
theorem d_law_1152 : decode code 1152 = .ok (.ireturn, 1) := by decide +kernel
def s_law_1145 (L : Nat) (xs : Nat → Int32) (k18 : Nat → Nat → Int32 → Mm → Option (Int32 × Mm)) (r1 : Nat) (r2 : Nat) (x3 : Int32) (M : Mm) : Option (Int32 × Mm) := at224 M (k18 r1 r2 (x3 + 5) M)
def s_law_18 (L : Nat) (xs : Nat → Int32) : Nat → Nat → Nat → Int32 → Mm → Option (Int32 × Mm)
  | 0, _, _, _, _ => none
  | n + 1, r1, r2, x3, M => at224 M (sL L (fun v1 => (if (v1 - (5 : Int32)) < x3 then some (1, M) else sX L xs x3 (fun v2 => (if (v2 &&& (31 : Int32)) = 0 then sX L xs (x3 + (1 : Int32)) (fun v3 => sX L xs (x3 + (2 : Int32)) (fun v4 => sX L xs (x3 + (3 : Int32)) (fun v5 => cl (has M r1 20) (s_m10_wire r1 v3 v4 v5 M) (fun v6 M7 => sX L xs (x3 + (1 : Int32)) (fun v8 => sX L xs (x3 + (2 : Int32)) (fun v9 => sX L xs (x3 + (3 : Int32)) (fun v10 => cl (has M7 r2 21) (s_m11_wire r2 v8 v9 v10 M7) (fun v11 M12 => (if v6 = v11 then s_law_1145 L xs (s_law_18 L xs n) r1 r2 x3 M12 else none))))))))) else if (v2 &&& (31 : Int32)) = 1 then sX L xs (x3 + (1 : Int32)) (fun v13 => sX L xs (x3 + (2 : Int32)) (fun v14 => sX L xs (x3 + (3 : Int32)) (fun v15 => sX L xs (x3 + (4 : Int32)) (fun v16 => cl (has M r1 20) (s_m10_piece r1 v13 v14 v15 v16 M) (fun v17 M18 => sX L xs (x3 + (1 : Int32)) (fun v19 => sX L xs (x3 + (2 : Int32)) (fun v20 => sX L xs (x3 + (3 : Int32)) (fun v21 => sX L xs (x3 + (4 : Int32)) (fun v22 => cl (has M18 r2 21) (s_m11_piece r2 v19 v20 v21 v22 M18) (fun v23 M24 => (if v17 = v23 then s_law_1145 L xs (s_law_18 L xs n) r1 r2 x3 M24 else none))))))))))) else if (v2 &&& (31 : Int32)) = 2 then sX L xs (x3 + (1 : Int32)) (fun v25 => sX L xs (x3 + (2 : Int32)) (fun v26 => cl (has M r1 20) (s_m10_look r1 v25 v26 M) (fun v27 M28 => sX L xs (x3 + (1 : Int32)) (fun v29 => sX L xs (x3 + (2 : Int32)) (fun v30 => cl (has M28 r2 21) (s_m11_look r2 v29 v30 M28) (fun v31 M32 => (if v27 = v31 then s_law_1145 L xs (s_law_18 L xs n) r1 r2 x3 M32 else none))))))) else if (v2 &&& (31 : Int32)) = 3 then sX L xs (x3 + (1 : Int32)) (fun v33 => sX L xs (x3 + (2 : Int32)) (fun v34 => cl (has M r1 20) (s_m10_word r1 v33 v34 M) (fun v35 M36 => sX L xs (x3 + (1 : Int32)) (fun v37 => sX L xs (x3 + (2 : Int32)) (fun v38 => cl (has M36 r2 21) (s_m11_word r2 v37 v38 M36) (fun v39 M40 => (if v35 = v39 then s_law_1145 L xs (s_law_18 L xs n) r1 r2 x3 M40 else none))))))) else if (v2 &&& (31 : Int32)) = 4 then sX L xs (x3 + (1 : Int32)) (fun v41 => sX L xs (x3 + (2 : Int32)) (fun v42 => cl (has M r1 20) (s_m10_feed r1 v41 v42 M) (fun v43 M44 => sX L xs (x3 + (1 : Int32)) (fun v45 => sX L xs (x3 + (2 : Int32)) (fun v46 => cl (has M44 r2 21) (s_m11_feed r2 v45 v46 M44) (fun v47 M48 => (if v43 = v47 then s_law_1145 L xs (s_law_18 L xs n) r1 r2 x3 M48 else none))))))) else if (v2 &&& (31 : Int32)) = 5 then cl (has M r1 20) (s_m10_wipe r1 M) (fun v49 M50 => cl (has M50 r2 21) (s_m11_wipe r2 M50) (fun v51 M52 => (if v49 = v51 then s_law_1145 L xs (s_law_18 L xs n) r1 r2 x3 M52 else none))) else if (v2 &&& (31 : Int32)) = 6 then sX L xs (x3 + (1 : Int32)) (fun v53 => sX L xs (x3 + (2 : Int32)) (fun v54 => cl (has M r1 20) (s_m10_rule r1 v53 v54 M) (fun v55 M56 => sX L xs (x3 + (1 : Int32)) (fun v57 => sX L xs (x3 + (2 : Int32)) (fun v58 => cl (has M56 r2 21) (s_m11_rule r2 v57 v58 M56) (fun v59 M60 => (if v55 = v59 then s_law_1145 L xs (s_law_18 L xs n) r1 r2 x3 M60 else none))))))) else if (v2 &&& (31 : Int32)) = 7 then sX L xs (x3 + (1 : Int32)) (fun v61 => sX L xs (x3 + (2 : Int32)) (fun v62 => sX L xs (x3 + (3 : Int32)) (fun v63 => cl (has M r1 20) (s_m10_holds r1 v61 v62 v63 M) (fun v64 M65 => sX L xs (x3 + (1 : Int32)) (fun v66 => sX L xs (x3 + (2 : Int32)) (fun v67 => sX L xs (x3 + (3 : Int32)) (fun v68 => cl (has M65 r2 21) (s_m11_holds r2 v66 v67 v68 M65) (fun v69 M70 => (if v64 = v69 then s_law_1145 L xs (s_law_18 L xs n) r1 r2 x3 M70 else none))))))))) else if (v2 &&& (31 : Int32)) = 8 then sX L xs (x3 + (1 : Int32)) (fun v71 => cl (has M r1 20) (s_m10_rank r1 v71 M) (fun v72 M73 => sX L xs (x3 + (1 : Int32)) (fun v74 => cl (has M73 r2 21) (s_m11_rank r2 v74 M73) (fun v75 M76 => (if v72 = v75 then s_law_1145 L xs (s_law_18 L xs n) r1 r2 x3 M76 else none))))) else if (v2 &&& (31 : Int32)) = 9 then sX L xs (x3 + (1 : Int32)) (fun v77 => sX L xs (x3 + (2 : Int32)) (fun v78 => cl (has M r1 20) (s_m10_barred r1 v77 v78 M) (fun v79 M80 => sX L xs (x3 + (1 : Int32)) (fun v81 => sX L xs (x3 + (2 : Int32)) (fun v82 => cl (has M80 r2 21) (s_m11_barred r2 v81 v82 M80) (fun v83 M84 => (if v79 = v83 then s_law_1145 L xs (s_law_18 L xs n) r1 r2 x3 M84 else none))))))) else if (v2 &&& (31 : Int32)) = 10 then sX L xs (x3 + (1 : Int32)) (fun v85 => sX L xs (x3 + (2 : Int32)) (fun v86 => cl (has M r1 20) (s_m10_file r1 v85 v86 M) (fun v87 M88 => sX L xs (x3 + (1 : Int32)) (fun v89 => sX L xs (x3 + (2 : Int32)) (fun v90 => cl (has M88 r2 21) (s_m11_file r2 v89 v90 M88) (fun v91 M92 => (if v87 = v91 then s_law_1145 L xs (s_law_18 L xs n) r1 r2 x3 M92 else none))))))) else if (v2 &&& (31 : Int32)) = 11 then sX L xs (x3 + (1 : Int32)) (fun v93 => sX L xs (x3 + (2 : Int32)) (fun v94 => cl (has M r1 20) (s_m10_garble r1 v93 v94 M) (fun v95 M96 => sX L xs (x3 + (1 : Int32)) (fun v97 => sX L xs (x3 + (2 : Int32)) (fun v98 => cl (has M96 r2 21) (s_m11_garble r2 v97 v98 M96) (fun v99 M100 => (if v95 = v99 then s_law_1145 L xs (s_law_18 L xs n) r1 r2 x3 M100 else none))))))) else if (v2 &&& (31 : Int32)) = 12 then sX L xs (x3 + (1 : Int32)) (fun v101 => cl (has M r1 20) (s_m10_run r1 v101 M) (fun v102 M103 => sX L xs (x3 + (1 : Int32)) (fun v104 => cl (has M103 r2 21) (s_m11_run r2 v104 M103) (fun v105 M106 => (if v102 = v105 then s_law_1145 L xs (s_law_18 L xs n) r1 r2 x3 M106 else none))))) else if (v2 &&& (31 : Int32)) = 13 then sX L xs (x3 + (1 : Int32)) (fun v107 => sX L xs (x3 + (2 : Int32)) (fun v108 => sX L xs (x3 + (3 : Int32)) (fun v109 => cl (has M r1 20) (s_m10_sent r1 v107 v108 v109 M) (fun v110 M111 => sX L xs (x3 + (1 : Int32)) (fun v112 => sX L xs (x3 + (2 : Int32)) (fun v113 => sX L xs (x3 + (3 : Int32)) (fun v114 => cl (has M111 r2 21) (s_m11_sent r2 v112 v113 v114 M111) (fun v115 M116 => (if v110 = v115 then s_law_1145 L xs (s_law_18 L xs n) r1 r2 x3 M116 else none))))))))) else if (v2 &&& (31 : Int32)) = 14 then sX L xs (x3 + (1 : Int32)) (fun v117 => sX L xs (x3 + (2 : Int32)) (fun v118 => cl (has M r1 20) (s_m10_since r1 v117 v118 M) (fun v119 M120 => sX L xs (x3 + (1 : Int32)) (fun v121 => sX L xs (x3 + (2 : Int32)) (fun v122 => cl (has M120 r2 21) (s_m11_since r2 v121 v122 M120) (fun v123 M124 => (if v119 = v123 then s_law_1145 L xs (s_law_18 L xs n) r1 r2 x3 M124 else none))))))) else if (v2 &&& (31 : Int32)) = 15 then sX L xs (x3 + (1 : Int32)) (fun v125 => cl (has M r1 20) (s_m10_cost r1 v125 M) (fun v126 M127 => sX L xs (x3 + (1 : Int32)) (fun v128 => cl (has M127 r2 21) (s_m11_cost r2 v128 M127) (fun v129 M130 => (if v126 = v129 then s_law_1145 L xs (s_law_18 L xs n) r1 r2 x3 M130 else none))))) else if (v2 &&& (31 : Int32)) = 16 then sX L xs (x3 + (1 : Int32)) (fun v131 => sX L xs (x3 + (2 : Int32)) (fun v132 => cl (has M r1 20) (s_m10_first r1 v131 v132 M) (fun v133 M134 => sX L xs (x3 + (1 : Int32)) (fun v135 => sX L xs (x3 + (2 : Int32)) (fun v136 => cl (has M134 r2 21) (s_m11_first r2 v135 v136 M134) (fun v137 M138 => (if v133 = v137 then s_law_1145 L xs (s_law_18 L xs n) r1 r2 x3 M138 else none))))))) else if (v2 &&& (31 : Int32)) = 17 then sX L xs (x3 + (1 : Int32)) (fun v139 => sX L xs (x3 + (2 : Int32)) (fun v140 => sX L xs (x3 + (3 : Int32)) (fun v141 => cl (has M r1 20) (s_m10_text r1 v139 v140 v141 M) (fun v142 M143 => sX L xs (x3 + (1 : Int32)) (fun v144 => sX L xs (x3 + (2 : Int32)) (fun v145 => sX L xs (x3 + (3 : Int32)) (fun v146 => cl (has M143 r2 21) (s_m11_text r2 v144 v145 v146 M143) (fun v147 M148 => (if v142 = v147 then s_law_1145 L xs (s_law_18 L xs n) r1 r2 x3 M148 else none))))))))) else if (v2 &&& (31 : Int32)) = 18 then sX L xs (x3 + (1 : Int32)) (fun v149 => sX L xs (x3 + (2 : Int32)) (fun v150 => sX L xs (x3 + (3 : Int32)) (fun v151 => cl (has M r1 20) (s_m10_read r1 v149 v150 v151 M) (fun v152 M153 => sX L xs (x3 + (1 : Int32)) (fun v154 => sX L xs (x3 + (2 : Int32)) (fun v155 => sX L xs (x3 + (3 : Int32)) (fun v156 => cl (has M153 r2 21) (s_m11_read r2 v154 v155 v156 M153) (fun v157 M158 => (if v152 = v157 then s_law_1145 L xs (s_law_18 L xs n) r1 r2 x3 M158 else none))))))))) else if (v2 &&& (31 : Int32)) = 19 then sX L xs (x3 + (1 : Int32)) (fun v159 => sX L xs (x3 + (2 : Int32)) (fun v160 => sX L xs (x3 + (3 : Int32)) (fun v161 => cl (has M r1 20) (s_m10_from r1 v159 v160 v161 M) (fun v162 M163 => sX L xs (x3 + (1 : Int32)) (fun v164 => sX L xs (x3 + (2 : Int32)) (fun v165 => sX L xs (x3 + (3 : Int32)) (fun v166 => cl (has M163 r2 21) (s_m11_from r2 v164 v165 v166 M163) (fun v167 M168 => (if v162 = v167 then s_law_1145 L xs (s_law_18 L xs n) r1 r2 x3 M168 else none))))))))) else if (v2 &&& (31 : Int32)) = 20 then sX L xs (x3 + (1 : Int32)) (fun v169 => cl (has M r1 20) (s_m10_edition r1 v169 M) (fun v170 M171 => sX L xs (x3 + (1 : Int32)) (fun v172 => cl (has M171 r2 21) (s_m11_edition r2 v172 M171) (fun v173 M174 => (if v170 = v173 then s_law_1145 L xs (s_law_18 L xs n) r1 r2 x3 M174 else none))))) else if (v2 &&& (31 : Int32)) = 21 then sX L xs (x3 + (1 : Int32)) (fun v175 => sX L xs (x3 + (2 : Int32)) (fun v176 => cl (has M r1 20) (s_m10_printed r1 v175 v176 M) (fun v177 M178 => sX L xs (x3 + (1 : Int32)) (fun v179 => sX L xs (x3 + (2 : Int32)) (fun v180 => cl (has M178 r2 21) (s_m11_printed r2 v179 v180 M178) (fun v181 M182 => (if v177 = v181 then s_law_1145 L xs (s_law_18 L xs n) r1 r2 x3 M182 else none))))))) else if (v2 &&& (31 : Int32)) = 22 then sX L xs (x3 + (1 : Int32)) (fun v183 => sX L xs (x3 + (2 : Int32)) (fun v184 => cl (has M r1 20) (s_m10_worth r1 v183 v184 M) (fun v185 M186 => sX L xs (x3 + (1 : Int32)) (fun v187 => sX L xs (x3 + (2 : Int32)) (fun v188 => cl (has M186 r2 21) (s_m11_worth r2 v187 v188 M186) (fun v189 M190 => (if v185 = v189 then s_law_1145 L xs (s_law_18 L xs n) r1 r2 x3 M190 else none))))))) else if (v2 &&& (31 : Int32)) = 23 then cl (has M r1 20) (s_m10_plan r1 M) (fun v191 M192 => cl (has M192 r2 21) (s_m11_plan r2 M192) (fun v193 M194 => (if v191 = v193 then s_law_1145 L xs (s_law_18 L xs n) r1 r2 x3 M194 else none))) else if (v2 &&& (31 : Int32)) = 24 then sX L xs (x3 + (1 : Int32)) (fun v195 => cl (has M r1 20) (s_m10_count r1 v195 M) (fun v196 M197 => sX L xs (x3 + (1 : Int32)) (fun v198 => cl (has M197 r2 21) (s_m11_count r2 v198 M197) (fun v199 M200 => (if v196 = v199 then s_law_1145 L xs (s_law_18 L xs n) r1 r2 x3 M200 else none))))) else if (v2 &&& (31 : Int32)) = 25 then sX L xs (x3 + (1 : Int32)) (fun v201 => sX L xs (x3 + (2 : Int32)) (fun v202 => cl (has M r1 20) (s_m10_tell r1 v201 v202 M) (fun v203 M204 => sX L xs (x3 + (1 : Int32)) (fun v205 => sX L xs (x3 + (2 : Int32)) (fun v206 => cl (has M204 r2 21) (s_m11_tell r2 v205 v206 M204) (fun v207 M208 => (if v203 = v207 then s_law_1145 L xs (s_law_18 L xs n) r1 r2 x3 M208 else none))))))) else if (v2 &&& (31 : Int32)) = 26 then sX L xs (x3 + (1 : Int32)) (fun v209 => cl (has M r1 20) (s_m10_lay r1 v209 M) (fun v210 M211 => sX L xs (x3 + (1 : Int32)) (fun v212 => cl (has M211 r2 21) (s_m11_lay2 r2 v212 M211) (fun v213 M214 => (if v210 = v213 then s_law_1145 L xs (s_law_18 L xs n) r1 r2 x3 M214 else none))))) else if (v2 &&& (31 : Int32)) = 27 then cl (has M r1 20) (s_m10_tear r1 M) (fun v215 M216 => cl (has M216 r2 21) (s_m11_tear r2 M216) (fun v217 M218 => (if v215 = v217 then s_law_1145 L xs (s_law_18 L xs n) r1 r2 x3 M218 else none))) else if (v2 &&& (31 : Int32)) = 28 then sX L xs (x3 + (1 : Int32)) (fun v219 => cl (has M r1 20) (s_m10_row r1 v219 M) (fun v220 M221 => sX L xs (x3 + (1 : Int32)) (fun v222 => cl (has M221 r2 21) (s_m11_row r2 v222 M221) (fun v223 M224 => (if v220 = v223 then s_law_1145 L xs (s_law_18 L xs n) r1 r2 x3 M224 else none))))) else if (v2 &&& (31 : Int32)) = 29 then sX L xs (x3 + (1 : Int32)) (fun v225 => sX L xs (x3 + (2 : Int32)) (fun v226 => sX L xs (x3 + (3 : Int32)) (fun v227 => cl (has M r1 20) (s_m10_copy r1 v225 v226 v227 M) (fun v228 M229 => sX L xs (x3 + (1 : Int32)) (fun v230 => sX L xs (x3 + (2 : Int32)) (fun v231 => sX L xs (x3 + (3 : Int32)) (fun v232 => cl (has M229 r2 21) (s_m11_copy r2 v230 v231 v232 M229) (fun v233 M234 => (if v228 = v233 then s_law_1145 L xs (s_law_18 L xs n) r1 r2 x3 M234 else none))))))))) else if (v2 &&& (31 : Int32)) = 30 then sX L xs (x3 + (1 : Int32)) (fun v235 => cl (has M r1 20) (s_m10_status r1 v235 M) (fun v236 M237 => sX L xs (x3 + (1 : Int32)) (fun v238 => cl (has M237 r2 21) (s_m11_status r2 v238 M237) (fun v239 M240 => (if v236 = v239 then s_law_1145 L xs (s_law_18 L xs n) r1 r2 x3 M240 else none))))) else s_law_1145 L xs (s_law_18 L xs n) r1 r2 x3 M)))))
def s_law (L : Nat) (xs : Nat → Int32) (M : Mm) : Option (Int32 × Mm) := mk 0 600000 7302250 M 20 (fun v1 M2 => clK 0 600000 7302250 182 3470 M2 (has M2 v1 20) (s_m10_init v1 M2) (fun _ M3 => mk 0 600000 7302250 M3 21 (fun v4 M5 => clK 0 600000 7302250 40 4191 M5 (has M5 v4 21) (s_m11_init v4 M5) (fun _ M6 => s_law_18 L xs FU v1 v4 (0 : Int32) M6))))
set_option maxRecDepth 100000 in
set_option maxHeartbeats 4000000 in
theorem w_law_1145 {V : Ev} {C : Cx} {nm : String} {b L : Nat} {xs : Nat → Int32} (hC : Cok V C "NewsWireLaw" code 4 0 ret nm) (hR : cR C = room_1) (hX : va_X b L xs (cS C) (cS C).heap) (hbl : b < (cS C).heap.size) (hbA : ¬ Af V b) (ha : cA C = #[Value.ref b]) (k18 : Nat → Nat → Int32 → Mm → Option (Int32 × Mm)) (hk18 : ∀ (r1 : Nat) (r2 : Nat) (x3 : Int32) (M : Mm), Sm V C 4 0 (mN M) (qW C b) 18 [(0, .ref b), (1, rv V.1 r1), (2, rv V.1 r2), (3, .int x3)] [] M (k18 r1 r2 x3 M)) : ∀ (r1 : Nat) (r2 : Nat) (x3 : Int32) (M : Mm), Sm V C 4 0 (mN M) (qW C b) 1145 [(0, .ref b), (1, rv V.1 r1), (2, rv V.1 r2), (3, .int x3)] [] M (s_law_1145 L xs k18 r1 r2 x3 M) := by
  intro r1 r2 x3 M
  unfold s_law_1145
  refine Sm.at224_ ?_
  refine Sm.iinc (v := x3 + 5) (lv' := [(3, .int (x3 + 5)), (0, .ref b), (1, rv V.1 r1), (2, rv V.1 r2)]) hC d_law_1145 3 rfl rfl (by decide) (by simp [cat_rv]) ?_
  refine Sm.goto (tgt := 18) hC d_law_1148 (by decide) ?_
  refine Sm.sub [1, 2, 3, 0] rfl ?_
  refine Sm.cnt (fun hN9 => ?_)
  rw [← hN9]
  exact hk18 r1 r2 (x3 + 5) M
set_option maxRecDepth 100000 in
set_option maxHeartbeats 4000000 in
theorem w_law_18 {V : Ev} {C : Cx} {nm : String} {b L : Nat} {xs : Nat → Int32} (hC : Cok V C "NewsWireLaw" code 4 0 ret nm) (hR : cR C = room_1) (hX : va_X b L xs (cS C) (cS C).heap) (hbl : b < (cS C).heap.size) (hbA : ¬ Af V b) (ha : cA C = #[Value.ref b])  : ∀ (n : Nat) (r1 : Nat) (r2 : Nat) (x3 : Int32) (M : Mm), Sm V C 4 0 (mN M) (qW C b) 18 [(0, .ref b), (1, rv V.1 r1), (2, rv V.1 r2), (3, .int x3)] [] M (s_law_18 L xs n r1 r2 x3 M) := by
  intro n
  induction n with
  | zero => exact fun r1 r2 x3 M => Sm.none_
  | succ n ih =>
    intro r1 r2 x3 M
    unfold s_law_18
    refine Sm.at224_ ?_
    refine Sm.iload_n hC d_law_18 rfl 3 rfl ?_
    refine Sm.aloadS_n hC d_law_19 rfl 0 rfl ?_
    refine Sm.scl hC hX hbl hbA d_law_20 (fun v1 => ?_)
    refine Sm.iconst (v := 5) hC d_law_21 (by decide) ?_
    refine Sm.isub hC d_law_22 ?_
    refine Sm.icmp_gt (tgt := 1151) hC d_law_23 (by decide) ?_ ?_
    · refine Sm.iconst (v := 1) hC d_law_1151 (by decide) ?_
      exact Sm.law1 hC hR ha d_law_1152
    · refine Sm.aloadS_n hC d_law_26 rfl 0 rfl ?_
      refine Sm.iload_n hC d_law_27 rfl 3 rfl ?_
      refine Sm.sci hC hX hbl hbA d_law_28 (fun v2 => ?_)
      refine Sm.bipush (v := 31) hC d_law_29 (by decide) ?_
      refine Sm.iand hC d_law_31 ?_
      refine Sm.if_ (fun h9 => ?_) (fun h32_0 => ?_)
      · refine Sm.tswIn (tgt := 172) hC d_law_32 (by rw [h9]; decide) (by rw [h9]; decide) (by rw [h9] <;> rfl) (by decide) ?_
        refine Sm.aload_n hC d_law_172 rfl 1 rfl ?_
        refine Sm.aloadS_n hC d_law_173 rfl 0 rfl ?_
        refine Sm.iload_n hC d_law_174 rfl 3 rfl ?_
        refine Sm.iconst (v := 1) hC d_law_175 (by decide) ?_
        refine Sm.iadd hC d_law_176 ?_
        refine Sm.sci hC hX hbl hbA d_law_177 (fun v3 => ?_)
        refine Sm.aloadS_n hC d_law_178 rfl 0 rfl ?_
        refine Sm.iload_n hC d_law_179 rfl 3 rfl ?_
        refine Sm.iconst (v := 2) hC d_law_180 (by decide) ?_
        refine Sm.iadd hC d_law_181 ?_
        refine Sm.sci hC hX hbl hbA d_law_182 (fun v4 => ?_)
        refine Sm.aloadS_n hC d_law_183 rfl 0 rfl ?_
        refine Sm.iload_n hC d_law_184 rfl 3 rfl ?_
        refine Sm.iconst (v := 3) hC d_law_185 (by decide) ?_
        refine Sm.iadd hC d_law_186 ?_
        refine Sm.sci hC hX hbl hbA d_law_187 (fun v5 => ?_)
        refine Sm.callVi 10 (As := [.int v3, .int v4, .int v5]) (st := []) hC hR cw_m10_wire (tw_i 406 (by decide +kernel)) (tw_i 407 (by decide +kernel)) (tw_i 408 (by decide +kernel)) ⟨_, rfl, rfl⟩ (fun r9 M9 h9 => ok_m10_wire h9) rfl rfl (RW.law ⟨rfl, rfl, by decide, by decide⟩) (by simp) d_law_188 (fun v6 M7 => ?_)
        refine Sm.aload_n hC d_law_191 rfl 2 rfl ?_
        refine Sm.aloadS_n hC d_law_192 rfl 0 rfl ?_
        refine Sm.iload_n hC d_law_193 rfl 3 rfl ?_
        refine Sm.iconst (v := 1) hC d_law_194 (by decide) ?_
        refine Sm.iadd hC d_law_195 ?_
        refine Sm.sci hC hX hbl hbA d_law_196 (fun v8 => ?_)
        refine Sm.aloadS_n hC d_law_197 rfl 0 rfl ?_
        refine Sm.iload_n hC d_law_198 rfl 3 rfl ?_
        refine Sm.iconst (v := 2) hC d_law_199 (by decide) ?_
        refine Sm.iadd hC d_law_200 ?_
        refine Sm.sci hC hX hbl hbA d_law_201 (fun v9 => ?_)
        refine Sm.aloadS_n hC d_law_202 rfl 0 rfl ?_
        refine Sm.iload_n hC d_law_203 rfl 3 rfl ?_
        refine Sm.iconst (v := 3) hC d_law_204 (by decide) ?_
        refine Sm.iadd hC d_law_205 ?_
        refine Sm.sci hC hX hbl hbA d_law_206 (fun v10 => ?_)
        refine Sm.callVi 11 (As := [.int v8, .int v9, .int v10]) (st := [.int v6]) hC hR cw_m11_wire (tw_i 1052 (by decide +kernel)) (tw_i 1053 (by decide +kernel)) (tw_i 1054 (by decide +kernel)) ⟨_, rfl, rfl⟩ (fun r9 M9 h9 => ok_m11_wire h9) rfl rfl (RW.law ⟨rfl, rfl, by decide, by decide⟩) (by simp) d_law_207 (fun v11 M12 => ?_)
        refine Sm.icmp_eq (tgt := 1145) hC d_law_210 (by decide) ?_ ?_
        · refine Sm.cnt (fun hN9 => ?_)
          rw [← hN9]
          exact w_law_1145 hC hR hX hbl hbA ha (s_law_18 L xs n) ih r1 r2 x3 M12
        · refine Sm.iconst (v := 0) hC d_law_213 (by decide) ?_
          exact Sm.none_
      refine Sm.if_ (fun h9 => ?_) (fun h32_1 => ?_)
      · refine Sm.tswIn (tgt := 215) hC d_law_32 (by rw [h9]; decide) (by rw [h9]; decide) (by rw [h9] <;> rfl) (by decide) ?_
        refine Sm.aload_n hC d_law_215 rfl 1 rfl ?_
        refine Sm.aloadS_n hC d_law_216 rfl 0 rfl ?_
        refine Sm.iload_n hC d_law_217 rfl 3 rfl ?_
        refine Sm.iconst (v := 1) hC d_law_218 (by decide) ?_
        refine Sm.iadd hC d_law_219 ?_
        refine Sm.sci hC hX hbl hbA d_law_220 (fun v13 => ?_)
        refine Sm.aloadS_n hC d_law_221 rfl 0 rfl ?_
        refine Sm.iload_n hC d_law_222 rfl 3 rfl ?_
        refine Sm.iconst (v := 2) hC d_law_223 (by decide) ?_
        refine Sm.iadd hC d_law_224 ?_
        refine Sm.sci hC hX hbl hbA d_law_225 (fun v14 => ?_)
        refine Sm.aloadS_n hC d_law_226 rfl 0 rfl ?_
        refine Sm.iload_n hC d_law_227 rfl 3 rfl ?_
        refine Sm.iconst (v := 3) hC d_law_228 (by decide) ?_
        refine Sm.iadd hC d_law_229 ?_
        refine Sm.sci hC hX hbl hbA d_law_230 (fun v15 => ?_)
        refine Sm.aloadS_n hC d_law_231 rfl 0 rfl ?_
        refine Sm.iload_n hC d_law_232 rfl 3 rfl ?_
        refine Sm.iconst (v := 4) hC d_law_233 (by decide) ?_
        refine Sm.iadd hC d_law_234 ?_
        refine Sm.sci hC hX hbl hbA d_law_235 (fun v16 => ?_)
        refine Sm.callVi 10 (As := [.int v13, .int v14, .int v15, .int v16]) (st := []) hC hR cw_m10_piece (tw_i 418 (by decide +kernel)) (tw_i 419 (by decide +kernel)) (tw_i 420 (by decide +kernel)) ⟨_, rfl, rfl⟩ (fun r9 M9 h9 => ok_m10_piece h9) rfl rfl (RW.law ⟨rfl, rfl, by decide, by decide⟩) (by simp) d_law_236 (fun v17 M18 => ?_)
        refine Sm.aload_n hC d_law_239 rfl 2 rfl ?_
        refine Sm.aloadS_n hC d_law_240 rfl 0 rfl ?_
        refine Sm.iload_n hC d_law_241 rfl 3 rfl ?_
        refine Sm.iconst (v := 1) hC d_law_242 (by decide) ?_
        refine Sm.iadd hC d_law_243 ?_
        refine Sm.sci hC hX hbl hbA d_law_244 (fun v19 => ?_)
        refine Sm.aloadS_n hC d_law_245 rfl 0 rfl ?_
        refine Sm.iload_n hC d_law_246 rfl 3 rfl ?_
        refine Sm.iconst (v := 2) hC d_law_247 (by decide) ?_
        refine Sm.iadd hC d_law_248 ?_
        refine Sm.sci hC hX hbl hbA d_law_249 (fun v20 => ?_)
        refine Sm.aloadS_n hC d_law_250 rfl 0 rfl ?_
        refine Sm.iload_n hC d_law_251 rfl 3 rfl ?_
        refine Sm.iconst (v := 3) hC d_law_252 (by decide) ?_
        refine Sm.iadd hC d_law_253 ?_
        refine Sm.sci hC hX hbl hbA d_law_254 (fun v21 => ?_)
        refine Sm.aloadS_n hC d_law_255 rfl 0 rfl ?_
        refine Sm.iload_n hC d_law_256 rfl 3 rfl ?_
        refine Sm.iconst (v := 4) hC d_law_257 (by decide) ?_
        refine Sm.iadd hC d_law_258 ?_
        refine Sm.sci hC hX hbl hbA d_law_259 (fun v22 => ?_)
        refine Sm.callVi 11 (As := [.int v19, .int v20, .int v21, .int v22]) (st := [.int v17]) hC hR cw_m11_piece (tw_i 1056 (by decide +kernel)) (tw_i 1057 (by decide +kernel)) (tw_i 1058 (by decide +kernel)) ⟨_, rfl, rfl⟩ (fun r9 M9 h9 => ok_m11_piece h9) rfl rfl (RW.law ⟨rfl, rfl, by decide, by decide⟩) (by simp) d_law_260 (fun v23 M24 => ?_)
        refine Sm.icmp_eq (tgt := 1145) hC d_law_263 (by decide) ?_ ?_
        · refine Sm.cnt (fun hN9 => ?_)
          rw [← hN9]
          exact w_law_1145 hC hR hX hbl hbA ha (s_law_18 L xs n) ih r1 r2 x3 M24
        · refine Sm.iconst (v := 0) hC d_law_266 (by decide) ?_
          exact Sm.none_
      refine Sm.if_ (fun h9 => ?_) (fun h32_2 => ?_)
      · refine Sm.tswIn (tgt := 268) hC d_law_32 (by rw [h9]; decide) (by rw [h9]; decide) (by rw [h9] <;> rfl) (by decide) ?_
        refine Sm.aload_n hC d_law_268 rfl 1 rfl ?_
        refine Sm.aloadS_n hC d_law_269 rfl 0 rfl ?_
        refine Sm.iload_n hC d_law_270 rfl 3 rfl ?_
        refine Sm.iconst (v := 1) hC d_law_271 (by decide) ?_
        refine Sm.iadd hC d_law_272 ?_
        refine Sm.sci hC hX hbl hbA d_law_273 (fun v25 => ?_)
        refine Sm.aloadS_n hC d_law_274 rfl 0 rfl ?_
        refine Sm.iload_n hC d_law_275 rfl 3 rfl ?_
        refine Sm.iconst (v := 2) hC d_law_276 (by decide) ?_
        refine Sm.iadd hC d_law_277 ?_
        refine Sm.sci hC hX hbl hbA d_law_278 (fun v26 => ?_)
        refine Sm.callVi 10 (As := [.int v25, .int v26]) (st := []) hC hR cw_m10_look (tw_i 457 (by decide +kernel)) (tw_i 458 (by decide +kernel)) (tw_i 459 (by decide +kernel)) ⟨_, rfl, rfl⟩ (fun r9 M9 h9 => ok_m10_look h9) rfl rfl (RW.law ⟨rfl, rfl, by decide, by decide⟩) (by simp) d_law_279 (fun v27 M28 => ?_)
        refine Sm.aload_n hC d_law_282 rfl 2 rfl ?_
        refine Sm.aloadS_n hC d_law_283 rfl 0 rfl ?_
        refine Sm.iload_n hC d_law_284 rfl 3 rfl ?_
        refine Sm.iconst (v := 1) hC d_law_285 (by decide) ?_
        refine Sm.iadd hC d_law_286 ?_
        refine Sm.sci hC hX hbl hbA d_law_287 (fun v29 => ?_)
        refine Sm.aloadS_n hC d_law_288 rfl 0 rfl ?_
        refine Sm.iload_n hC d_law_289 rfl 3 rfl ?_
        refine Sm.iconst (v := 2) hC d_law_290 (by decide) ?_
        refine Sm.iadd hC d_law_291 ?_
        refine Sm.sci hC hX hbl hbA d_law_292 (fun v30 => ?_)
        refine Sm.callVi 11 (As := [.int v29, .int v30]) (st := [.int v27]) hC hR cw_m11_look (tw_i 1069 (by decide +kernel)) (tw_i 1070 (by decide +kernel)) (tw_i 1071 (by decide +kernel)) ⟨_, rfl, rfl⟩ (fun r9 M9 h9 => ok_m11_look h9) rfl rfl (RW.law ⟨rfl, rfl, by decide, by decide⟩) (by simp) d_law_293 (fun v31 M32 => ?_)
        refine Sm.icmp_eq (tgt := 1145) hC d_law_296 (by decide) ?_ ?_
        · refine Sm.cnt (fun hN9 => ?_)
          rw [← hN9]
          exact w_law_1145 hC hR hX hbl hbA ha (s_law_18 L xs n) ih r1 r2 x3 M32
        · refine Sm.iconst (v := 0) hC d_law_299 (by decide) ?_
          exact Sm.none_
      refine Sm.if_ (fun h9 => ?_) (fun h32_3 => ?_)
      · refine Sm.tswIn (tgt := 301) hC d_law_32 (by rw [h9]; decide) (by rw [h9]; decide) (by rw [h9] <;> rfl) (by decide) ?_
        refine Sm.aload_n hC d_law_301 rfl 1 rfl ?_
        refine Sm.aloadS_n hC d_law_302 rfl 0 rfl ?_
        refine Sm.iload_n hC d_law_303 rfl 3 rfl ?_
        refine Sm.iconst (v := 1) hC d_law_304 (by decide) ?_
        refine Sm.iadd hC d_law_305 ?_
        refine Sm.sci hC hX hbl hbA d_law_306 (fun v33 => ?_)
        refine Sm.aloadS_n hC d_law_307 rfl 0 rfl ?_
        refine Sm.iload_n hC d_law_308 rfl 3 rfl ?_
        refine Sm.iconst (v := 2) hC d_law_309 (by decide) ?_
        refine Sm.iadd hC d_law_310 ?_
        refine Sm.sci hC hX hbl hbA d_law_311 (fun v34 => ?_)
        refine Sm.callVi 10 (As := [.int v33, .int v34]) (st := []) hC hR cw_m10_word (tw_i 461 (by decide +kernel)) (tw_i 462 (by decide +kernel)) (tw_i 463 (by decide +kernel)) ⟨_, rfl, rfl⟩ (fun r9 M9 h9 => ok_m10_word h9) rfl rfl (RW.law ⟨rfl, rfl, by decide, by decide⟩) (by simp) d_law_312 (fun v35 M36 => ?_)
        refine Sm.aload_n hC d_law_315 rfl 2 rfl ?_
        refine Sm.aloadS_n hC d_law_316 rfl 0 rfl ?_
        refine Sm.iload_n hC d_law_317 rfl 3 rfl ?_
        refine Sm.iconst (v := 1) hC d_law_318 (by decide) ?_
        refine Sm.iadd hC d_law_319 ?_
        refine Sm.sci hC hX hbl hbA d_law_320 (fun v37 => ?_)
        refine Sm.aloadS_n hC d_law_321 rfl 0 rfl ?_
        refine Sm.iload_n hC d_law_322 rfl 3 rfl ?_
        refine Sm.iconst (v := 2) hC d_law_323 (by decide) ?_
        refine Sm.iadd hC d_law_324 ?_
        refine Sm.sci hC hX hbl hbA d_law_325 (fun v38 => ?_)
        refine Sm.callVi 11 (As := [.int v37, .int v38]) (st := [.int v35]) hC hR cw_m11_word (tw_i 1073 (by decide +kernel)) (tw_i 1074 (by decide +kernel)) (tw_i 1075 (by decide +kernel)) ⟨_, rfl, rfl⟩ (fun r9 M9 h9 => ok_m11_word h9) rfl rfl (RW.law ⟨rfl, rfl, by decide, by decide⟩) (by simp) d_law_326 (fun v39 M40 => ?_)
        refine Sm.icmp_eq (tgt := 1145) hC d_law_329 (by decide) ?_ ?_
        · refine Sm.cnt (fun hN9 => ?_)
          rw [← hN9]
          exact w_law_1145 hC hR hX hbl hbA ha (s_law_18 L xs n) ih r1 r2 x3 M40
        · refine Sm.iconst (v := 0) hC d_law_332 (by decide) ?_
          exact Sm.none_
      refine Sm.if_ (fun h9 => ?_) (fun h32_4 => ?_)
      · refine Sm.tswIn (tgt := 334) hC d_law_32 (by rw [h9]; decide) (by rw [h9]; decide) (by rw [h9] <;> rfl) (by decide) ?_
        refine Sm.aload_n hC d_law_334 rfl 1 rfl ?_
        refine Sm.aloadS_n hC d_law_335 rfl 0 rfl ?_
        refine Sm.iload_n hC d_law_336 rfl 3 rfl ?_
        refine Sm.iconst (v := 1) hC d_law_337 (by decide) ?_
        refine Sm.iadd hC d_law_338 ?_
        refine Sm.sci hC hX hbl hbA d_law_339 (fun v41 => ?_)
        refine Sm.aloadS_n hC d_law_340 rfl 0 rfl ?_
        refine Sm.iload_n hC d_law_341 rfl 3 rfl ?_
        refine Sm.iconst (v := 2) hC d_law_342 (by decide) ?_
        refine Sm.iadd hC d_law_343 ?_
        refine Sm.sci hC hX hbl hbA d_law_344 (fun v42 => ?_)
        refine Sm.callVi 10 (As := [.int v41, .int v42]) (st := []) hC hR cw_m10_feed (tw_i 465 (by decide +kernel)) (tw_i 466 (by decide +kernel)) (tw_i 467 (by decide +kernel)) ⟨_, rfl, rfl⟩ (fun r9 M9 h9 => ok_m10_feed h9) rfl rfl (RW.law ⟨rfl, rfl, by decide, by decide⟩) (by simp) d_law_345 (fun v43 M44 => ?_)
        refine Sm.aload_n hC d_law_348 rfl 2 rfl ?_
        refine Sm.aloadS_n hC d_law_349 rfl 0 rfl ?_
        refine Sm.iload_n hC d_law_350 rfl 3 rfl ?_
        refine Sm.iconst (v := 1) hC d_law_351 (by decide) ?_
        refine Sm.iadd hC d_law_352 ?_
        refine Sm.sci hC hX hbl hbA d_law_353 (fun v45 => ?_)
        refine Sm.aloadS_n hC d_law_354 rfl 0 rfl ?_
        refine Sm.iload_n hC d_law_355 rfl 3 rfl ?_
        refine Sm.iconst (v := 2) hC d_law_356 (by decide) ?_
        refine Sm.iadd hC d_law_357 ?_
        refine Sm.sci hC hX hbl hbA d_law_358 (fun v46 => ?_)
        refine Sm.callVi 11 (As := [.int v45, .int v46]) (st := [.int v43]) hC hR cw_m11_feed (tw_i 1077 (by decide +kernel)) (tw_i 1078 (by decide +kernel)) (tw_i 1079 (by decide +kernel)) ⟨_, rfl, rfl⟩ (fun r9 M9 h9 => ok_m11_feed h9) rfl rfl (RW.law ⟨rfl, rfl, by decide, by decide⟩) (by simp) d_law_359 (fun v47 M48 => ?_)
        refine Sm.icmp_eq (tgt := 1145) hC d_law_362 (by decide) ?_ ?_
        · refine Sm.cnt (fun hN9 => ?_)
          rw [← hN9]
          exact w_law_1145 hC hR hX hbl hbA ha (s_law_18 L xs n) ih r1 r2 x3 M48
        · refine Sm.iconst (v := 0) hC d_law_365 (by decide) ?_
          exact Sm.none_
      refine Sm.if_ (fun h9 => ?_) (fun h32_5 => ?_)
      · refine Sm.tswIn (tgt := 367) hC d_law_32 (by rw [h9]; decide) (by rw [h9]; decide) (by rw [h9] <;> rfl) (by decide) ?_
        refine Sm.aload_n hC d_law_367 rfl 1 rfl ?_
        refine Sm.callVi 10 (As := []) (st := []) hC hR cw_m10_wipe (tw_i 473 (by decide +kernel)) (tw_i 474 (by decide +kernel)) (tw_i 475 (by decide +kernel)) ⟨_, rfl, rfl⟩ (fun r9 M9 h9 => ok_m10_wipe h9) rfl rfl (RW.law ⟨rfl, rfl, by decide, by decide⟩) (by simp) d_law_368 (fun v49 M50 => ?_)
        refine Sm.aload_n hC d_law_371 rfl 2 rfl ?_
        refine Sm.callVi 11 (As := []) (st := [.int v49]) hC hR cw_m11_wipe (tw_i 1081 (by decide +kernel)) (tw_i 1082 (by decide +kernel)) (tw_i 1083 (by decide +kernel)) ⟨_, rfl, rfl⟩ (fun r9 M9 h9 => ok_m11_wipe h9) rfl rfl (RW.law ⟨rfl, rfl, by decide, by decide⟩) (by simp) d_law_372 (fun v51 M52 => ?_)
        refine Sm.icmp_eq (tgt := 1145) hC d_law_375 (by decide) ?_ ?_
        · refine Sm.cnt (fun hN9 => ?_)
          rw [← hN9]
          exact w_law_1145 hC hR hX hbl hbA ha (s_law_18 L xs n) ih r1 r2 x3 M52
        · refine Sm.iconst (v := 0) hC d_law_378 (by decide) ?_
          exact Sm.none_
      refine Sm.if_ (fun h9 => ?_) (fun h32_6 => ?_)
      · refine Sm.tswIn (tgt := 380) hC d_law_32 (by rw [h9]; decide) (by rw [h9]; decide) (by rw [h9] <;> rfl) (by decide) ?_
        refine Sm.aload_n hC d_law_380 rfl 1 rfl ?_
        refine Sm.aloadS_n hC d_law_381 rfl 0 rfl ?_
        refine Sm.iload_n hC d_law_382 rfl 3 rfl ?_
        refine Sm.iconst (v := 1) hC d_law_383 (by decide) ?_
        refine Sm.iadd hC d_law_384 ?_
        refine Sm.sci hC hX hbl hbA d_law_385 (fun v53 => ?_)
        refine Sm.aloadS_n hC d_law_386 rfl 0 rfl ?_
        refine Sm.iload_n hC d_law_387 rfl 3 rfl ?_
        refine Sm.iconst (v := 2) hC d_law_388 (by decide) ?_
        refine Sm.iadd hC d_law_389 ?_
        refine Sm.sci hC hX hbl hbA d_law_390 (fun v54 => ?_)
        refine Sm.callVi 10 (As := [.int v53, .int v54]) (st := []) hC hR cw_m10_rule (tw_i 477 (by decide +kernel)) (tw_i 478 (by decide +kernel)) (tw_i 479 (by decide +kernel)) ⟨_, rfl, rfl⟩ (fun r9 M9 h9 => ok_m10_rule h9) rfl rfl (RW.law ⟨rfl, rfl, by decide, by decide⟩) (by simp) d_law_391 (fun v55 M56 => ?_)
        refine Sm.aload_n hC d_law_394 rfl 2 rfl ?_
        refine Sm.aloadS_n hC d_law_395 rfl 0 rfl ?_
        refine Sm.iload_n hC d_law_396 rfl 3 rfl ?_
        refine Sm.iconst (v := 1) hC d_law_397 (by decide) ?_
        refine Sm.iadd hC d_law_398 ?_
        refine Sm.sci hC hX hbl hbA d_law_399 (fun v57 => ?_)
        refine Sm.aloadS_n hC d_law_400 rfl 0 rfl ?_
        refine Sm.iload_n hC d_law_401 rfl 3 rfl ?_
        refine Sm.iconst (v := 2) hC d_law_402 (by decide) ?_
        refine Sm.iadd hC d_law_403 ?_
        refine Sm.sci hC hX hbl hbA d_law_404 (fun v58 => ?_)
        refine Sm.callVi 11 (As := [.int v57, .int v58]) (st := [.int v55]) hC hR cw_m11_rule (tw_i 1085 (by decide +kernel)) (tw_i 1086 (by decide +kernel)) (tw_i 1087 (by decide +kernel)) ⟨_, rfl, rfl⟩ (fun r9 M9 h9 => ok_m11_rule h9) rfl rfl (RW.law ⟨rfl, rfl, by decide, by decide⟩) (by simp) d_law_405 (fun v59 M60 => ?_)
        refine Sm.icmp_eq (tgt := 1145) hC d_law_408 (by decide) ?_ ?_
        · refine Sm.cnt (fun hN9 => ?_)
          rw [← hN9]
          exact w_law_1145 hC hR hX hbl hbA ha (s_law_18 L xs n) ih r1 r2 x3 M60
        · refine Sm.iconst (v := 0) hC d_law_411 (by decide) ?_
          exact Sm.none_
      refine Sm.if_ (fun h9 => ?_) (fun h32_7 => ?_)
      · refine Sm.tswIn (tgt := 413) hC d_law_32 (by rw [h9]; decide) (by rw [h9]; decide) (by rw [h9] <;> rfl) (by decide) ?_
        refine Sm.aload_n hC d_law_413 rfl 1 rfl ?_
        refine Sm.aloadS_n hC d_law_414 rfl 0 rfl ?_
        refine Sm.iload_n hC d_law_415 rfl 3 rfl ?_
        refine Sm.iconst (v := 1) hC d_law_416 (by decide) ?_
        refine Sm.iadd hC d_law_417 ?_
        refine Sm.sci hC hX hbl hbA d_law_418 (fun v61 => ?_)
        refine Sm.aloadS_n hC d_law_419 rfl 0 rfl ?_
        refine Sm.iload_n hC d_law_420 rfl 3 rfl ?_
        refine Sm.iconst (v := 2) hC d_law_421 (by decide) ?_
        refine Sm.iadd hC d_law_422 ?_
        refine Sm.sci hC hX hbl hbA d_law_423 (fun v62 => ?_)
        refine Sm.aloadS_n hC d_law_424 rfl 0 rfl ?_
        refine Sm.iload_n hC d_law_425 rfl 3 rfl ?_
        refine Sm.iconst (v := 3) hC d_law_426 (by decide) ?_
        refine Sm.iadd hC d_law_427 ?_
        refine Sm.sci hC hX hbl hbA d_law_428 (fun v63 => ?_)
        refine Sm.callVi 10 (As := [.int v61, .int v62, .int v63]) (st := []) hC hR cw_m10_holds (tw_i 586 (by decide +kernel)) (tw_i 587 (by decide +kernel)) (tw_i 588 (by decide +kernel)) ⟨_, rfl, rfl⟩ (fun r9 M9 h9 => ok_m10_holds h9) rfl rfl (RW.law ⟨rfl, rfl, by decide, by decide⟩) (by simp) d_law_429 (fun v64 M65 => ?_)
        refine Sm.aload_n hC d_law_432 rfl 2 rfl ?_
        refine Sm.aloadS_n hC d_law_433 rfl 0 rfl ?_
        refine Sm.iload_n hC d_law_434 rfl 3 rfl ?_
        refine Sm.iconst (v := 1) hC d_law_435 (by decide) ?_
        refine Sm.iadd hC d_law_436 ?_
        refine Sm.sci hC hX hbl hbA d_law_437 (fun v66 => ?_)
        refine Sm.aloadS_n hC d_law_438 rfl 0 rfl ?_
        refine Sm.iload_n hC d_law_439 rfl 3 rfl ?_
        refine Sm.iconst (v := 2) hC d_law_440 (by decide) ?_
        refine Sm.iadd hC d_law_441 ?_
        refine Sm.sci hC hX hbl hbA d_law_442 (fun v67 => ?_)
        refine Sm.aloadS_n hC d_law_443 rfl 0 rfl ?_
        refine Sm.iload_n hC d_law_444 rfl 3 rfl ?_
        refine Sm.iconst (v := 3) hC d_law_445 (by decide) ?_
        refine Sm.iadd hC d_law_446 ?_
        refine Sm.sci hC hX hbl hbA d_law_447 (fun v68 => ?_)
        refine Sm.callVi 11 (As := [.int v66, .int v67, .int v68]) (st := [.int v64]) hC hR cw_m11_holds (tw_i 1126 (by decide +kernel)) (tw_i 1127 (by decide +kernel)) (tw_i 1128 (by decide +kernel)) ⟨_, rfl, rfl⟩ (fun r9 M9 h9 => ok_m11_holds h9) rfl rfl (RW.law ⟨rfl, rfl, by decide, by decide⟩) (by simp) d_law_448 (fun v69 M70 => ?_)
        refine Sm.icmp_eq (tgt := 1145) hC d_law_451 (by decide) ?_ ?_
        · refine Sm.cnt (fun hN9 => ?_)
          rw [← hN9]
          exact w_law_1145 hC hR hX hbl hbA ha (s_law_18 L xs n) ih r1 r2 x3 M70
        · refine Sm.iconst (v := 0) hC d_law_454 (by decide) ?_
          exact Sm.none_
      refine Sm.if_ (fun h9 => ?_) (fun h32_8 => ?_)
      · refine Sm.tswIn (tgt := 456) hC d_law_32 (by rw [h9]; decide) (by rw [h9]; decide) (by rw [h9] <;> rfl) (by decide) ?_
        refine Sm.aload_n hC d_law_456 rfl 1 rfl ?_
        refine Sm.aloadS_n hC d_law_457 rfl 0 rfl ?_
        refine Sm.iload_n hC d_law_458 rfl 3 rfl ?_
        refine Sm.iconst (v := 1) hC d_law_459 (by decide) ?_
        refine Sm.iadd hC d_law_460 ?_
        refine Sm.sci hC hX hbl hbA d_law_461 (fun v71 => ?_)
        refine Sm.callVi 10 (As := [.int v71]) (st := []) hC hR cw_m10_rank (tw_i 604 (by decide +kernel)) (tw_i 605 (by decide +kernel)) (tw_i 606 (by decide +kernel)) ⟨_, rfl, rfl⟩ (fun r9 M9 h9 => ok_m10_rank h9) rfl rfl (RW.law ⟨rfl, rfl, by decide, by decide⟩) (by simp) d_law_462 (fun v72 M73 => ?_)
        refine Sm.aload_n hC d_law_465 rfl 2 rfl ?_
        refine Sm.aloadS_n hC d_law_466 rfl 0 rfl ?_
        refine Sm.iload_n hC d_law_467 rfl 3 rfl ?_
        refine Sm.iconst (v := 1) hC d_law_468 (by decide) ?_
        refine Sm.iadd hC d_law_469 ?_
        refine Sm.sci hC hX hbl hbA d_law_470 (fun v74 => ?_)
        refine Sm.callVi 11 (As := [.int v74]) (st := [.int v72]) hC hR cw_m11_rank (tw_i 1138 (by decide +kernel)) (tw_i 1139 (by decide +kernel)) (tw_i 1140 (by decide +kernel)) ⟨_, rfl, rfl⟩ (fun r9 M9 h9 => ok_m11_rank h9) rfl rfl (RW.law ⟨rfl, rfl, by decide, by decide⟩) (by simp) d_law_471 (fun v75 M76 => ?_)
        refine Sm.icmp_eq (tgt := 1145) hC d_law_474 (by decide) ?_ ?_
        · refine Sm.cnt (fun hN9 => ?_)
          rw [← hN9]
          exact w_law_1145 hC hR hX hbl hbA ha (s_law_18 L xs n) ih r1 r2 x3 M76
        · refine Sm.iconst (v := 0) hC d_law_477 (by decide) ?_
          exact Sm.none_
      refine Sm.if_ (fun h9 => ?_) (fun h32_9 => ?_)
      · refine Sm.tswIn (tgt := 479) hC d_law_32 (by rw [h9]; decide) (by rw [h9]; decide) (by rw [h9] <;> rfl) (by decide) ?_
        refine Sm.aload_n hC d_law_479 rfl 1 rfl ?_
        refine Sm.aloadS_n hC d_law_480 rfl 0 rfl ?_
        refine Sm.iload_n hC d_law_481 rfl 3 rfl ?_
        refine Sm.iconst (v := 1) hC d_law_482 (by decide) ?_
        refine Sm.iadd hC d_law_483 ?_
        refine Sm.sci hC hX hbl hbA d_law_484 (fun v77 => ?_)
        refine Sm.aloadS_n hC d_law_485 rfl 0 rfl ?_
        refine Sm.iload_n hC d_law_486 rfl 3 rfl ?_
        refine Sm.iconst (v := 2) hC d_law_487 (by decide) ?_
        refine Sm.iadd hC d_law_488 ?_
        refine Sm.sci hC hX hbl hbA d_law_489 (fun v78 => ?_)
        refine Sm.callVi 10 (As := [.int v77, .int v78]) (st := []) hC hR cw_m10_barred (tw_i 617 (by decide +kernel)) (tw_i 618 (by decide +kernel)) (tw_i 619 (by decide +kernel)) ⟨_, rfl, rfl⟩ (fun r9 M9 h9 => ok_m10_barred h9) rfl rfl (RW.law ⟨rfl, rfl, by decide, by decide⟩) (by simp) d_law_490 (fun v79 M80 => ?_)
        refine Sm.aload_n hC d_law_493 rfl 2 rfl ?_
        refine Sm.aloadS_n hC d_law_494 rfl 0 rfl ?_
        refine Sm.iload_n hC d_law_495 rfl 3 rfl ?_
        refine Sm.iconst (v := 1) hC d_law_496 (by decide) ?_
        refine Sm.iadd hC d_law_497 ?_
        refine Sm.sci hC hX hbl hbA d_law_498 (fun v81 => ?_)
        refine Sm.aloadS_n hC d_law_499 rfl 0 rfl ?_
        refine Sm.iload_n hC d_law_500 rfl 3 rfl ?_
        refine Sm.iconst (v := 2) hC d_law_501 (by decide) ?_
        refine Sm.iadd hC d_law_502 ?_
        refine Sm.sci hC hX hbl hbA d_law_503 (fun v82 => ?_)
        refine Sm.callVi 11 (As := [.int v81, .int v82]) (st := [.int v79]) hC hR cw_m11_barred (tw_i 1146 (by decide +kernel)) (tw_i 1147 (by decide +kernel)) (tw_i 1148 (by decide +kernel)) ⟨_, rfl, rfl⟩ (fun r9 M9 h9 => ok_m11_barred h9) rfl rfl (RW.law ⟨rfl, rfl, by decide, by decide⟩) (by simp) d_law_504 (fun v83 M84 => ?_)
        refine Sm.icmp_eq (tgt := 1145) hC d_law_507 (by decide) ?_ ?_
        · refine Sm.cnt (fun hN9 => ?_)
          rw [← hN9]
          exact w_law_1145 hC hR hX hbl hbA ha (s_law_18 L xs n) ih r1 r2 x3 M84
        · refine Sm.iconst (v := 0) hC d_law_510 (by decide) ?_
          exact Sm.none_
      refine Sm.if_ (fun h9 => ?_) (fun h32_10 => ?_)
      · refine Sm.tswIn (tgt := 512) hC d_law_32 (by rw [h9]; decide) (by rw [h9]; decide) (by rw [h9] <;> rfl) (by decide) ?_
        refine Sm.aload_n hC d_law_512 rfl 1 rfl ?_
        refine Sm.aloadS_n hC d_law_513 rfl 0 rfl ?_
        refine Sm.iload_n hC d_law_514 rfl 3 rfl ?_
        refine Sm.iconst (v := 1) hC d_law_515 (by decide) ?_
        refine Sm.iadd hC d_law_516 ?_
        refine Sm.sci hC hX hbl hbA d_law_517 (fun v85 => ?_)
        refine Sm.aloadS_n hC d_law_518 rfl 0 rfl ?_
        refine Sm.iload_n hC d_law_519 rfl 3 rfl ?_
        refine Sm.iconst (v := 2) hC d_law_520 (by decide) ?_
        refine Sm.iadd hC d_law_521 ?_
        refine Sm.sci hC hX hbl hbA d_law_522 (fun v86 => ?_)
        refine Sm.callVi 10 (As := [.int v85, .int v86]) (st := []) hC hR cw_m10_file (tw_i 625 (by decide +kernel)) (tw_i 626 (by decide +kernel)) (tw_i 627 (by decide +kernel)) ⟨_, rfl, rfl⟩ (fun r9 M9 h9 => ok_m10_file h9) rfl rfl (RW.law ⟨rfl, rfl, by decide, by decide⟩) (by simp) d_law_523 (fun v87 M88 => ?_)
        refine Sm.aload_n hC d_law_526 rfl 2 rfl ?_
        refine Sm.aloadS_n hC d_law_527 rfl 0 rfl ?_
        refine Sm.iload_n hC d_law_528 rfl 3 rfl ?_
        refine Sm.iconst (v := 1) hC d_law_529 (by decide) ?_
        refine Sm.iadd hC d_law_530 ?_
        refine Sm.sci hC hX hbl hbA d_law_531 (fun v89 => ?_)
        refine Sm.aloadS_n hC d_law_532 rfl 0 rfl ?_
        refine Sm.iload_n hC d_law_533 rfl 3 rfl ?_
        refine Sm.iconst (v := 2) hC d_law_534 (by decide) ?_
        refine Sm.iadd hC d_law_535 ?_
        refine Sm.sci hC hX hbl hbA d_law_536 (fun v90 => ?_)
        refine Sm.callVi 11 (As := [.int v89, .int v90]) (st := [.int v87]) hC hR cw_m11_file (tw_i 1157 (by decide +kernel)) (tw_i 1158 (by decide +kernel)) (tw_i 1159 (by decide +kernel)) ⟨_, rfl, rfl⟩ (fun r9 M9 h9 => ok_m11_file h9) rfl rfl (RW.law ⟨rfl, rfl, by decide, by decide⟩) (by simp) d_law_537 (fun v91 M92 => ?_)
        refine Sm.icmp_eq (tgt := 1145) hC d_law_540 (by decide) ?_ ?_
        · refine Sm.cnt (fun hN9 => ?_)
          rw [← hN9]
          exact w_law_1145 hC hR hX hbl hbA ha (s_law_18 L xs n) ih r1 r2 x3 M92
        · refine Sm.iconst (v := 0) hC d_law_543 (by decide) ?_
          exact Sm.none_
      refine Sm.if_ (fun h9 => ?_) (fun h32_11 => ?_)
      · refine Sm.tswIn (tgt := 545) hC d_law_32 (by rw [h9]; decide) (by rw [h9]; decide) (by rw [h9] <;> rfl) (by decide) ?_
        refine Sm.aload_n hC d_law_545 rfl 1 rfl ?_
        refine Sm.aloadS_n hC d_law_546 rfl 0 rfl ?_
        refine Sm.iload_n hC d_law_547 rfl 3 rfl ?_
        refine Sm.iconst (v := 1) hC d_law_548 (by decide) ?_
        refine Sm.iadd hC d_law_549 ?_
        refine Sm.sci hC hX hbl hbA d_law_550 (fun v93 => ?_)
        refine Sm.aloadS_n hC d_law_551 rfl 0 rfl ?_
        refine Sm.iload_n hC d_law_552 rfl 3 rfl ?_
        refine Sm.iconst (v := 2) hC d_law_553 (by decide) ?_
        refine Sm.iadd hC d_law_554 ?_
        refine Sm.sci hC hX hbl hbA d_law_555 (fun v94 => ?_)
        refine Sm.callVi 10 (As := [.int v93, .int v94]) (st := []) hC hR cw_m10_garble (tw_i 641 (by decide +kernel)) (tw_i 642 (by decide +kernel)) (tw_i 643 (by decide +kernel)) ⟨_, rfl, rfl⟩ (fun r9 M9 h9 => ok_m10_garble h9) rfl rfl (RW.law ⟨rfl, rfl, by decide, by decide⟩) (by simp) d_law_556 (fun v95 M96 => ?_)
        refine Sm.aload_n hC d_law_559 rfl 2 rfl ?_
        refine Sm.aloadS_n hC d_law_560 rfl 0 rfl ?_
        refine Sm.iload_n hC d_law_561 rfl 3 rfl ?_
        refine Sm.iconst (v := 1) hC d_law_562 (by decide) ?_
        refine Sm.iadd hC d_law_563 ?_
        refine Sm.sci hC hX hbl hbA d_law_564 (fun v97 => ?_)
        refine Sm.aloadS_n hC d_law_565 rfl 0 rfl ?_
        refine Sm.iload_n hC d_law_566 rfl 3 rfl ?_
        refine Sm.iconst (v := 2) hC d_law_567 (by decide) ?_
        refine Sm.iadd hC d_law_568 ?_
        refine Sm.sci hC hX hbl hbA d_law_569 (fun v98 => ?_)
        refine Sm.callVi 11 (As := [.int v97, .int v98]) (st := [.int v95]) hC hR cw_m11_garble (tw_i 1169 (by decide +kernel)) (tw_i 1170 (by decide +kernel)) (tw_i 1171 (by decide +kernel)) ⟨_, rfl, rfl⟩ (fun r9 M9 h9 => ok_m11_garble h9) rfl rfl (RW.law ⟨rfl, rfl, by decide, by decide⟩) (by simp) d_law_570 (fun v99 M100 => ?_)
        refine Sm.icmp_eq (tgt := 1145) hC d_law_573 (by decide) ?_ ?_
        · refine Sm.cnt (fun hN9 => ?_)
          rw [← hN9]
          exact w_law_1145 hC hR hX hbl hbA ha (s_law_18 L xs n) ih r1 r2 x3 M100
        · refine Sm.iconst (v := 0) hC d_law_576 (by decide) ?_
          exact Sm.none_
      refine Sm.if_ (fun h9 => ?_) (fun h32_12 => ?_)
      · refine Sm.tswIn (tgt := 578) hC d_law_32 (by rw [h9]; decide) (by rw [h9]; decide) (by rw [h9] <;> rfl) (by decide) ?_
        refine Sm.aload_n hC d_law_578 rfl 1 rfl ?_
        refine Sm.aloadS_n hC d_law_579 rfl 0 rfl ?_
        refine Sm.iload_n hC d_law_580 rfl 3 rfl ?_
        refine Sm.iconst (v := 1) hC d_law_581 (by decide) ?_
        refine Sm.iadd hC d_law_582 ?_
        refine Sm.sci hC hX hbl hbA d_law_583 (fun v101 => ?_)
        refine Sm.callVi 10 (As := [.int v101]) (st := []) hC hR cw_m10_run (tw_i 653 (by decide +kernel)) (tw_i 654 (by decide +kernel)) (tw_i 655 (by decide +kernel)) ⟨_, rfl, rfl⟩ (fun r9 M9 h9 => ok_m10_run h9) rfl rfl (RW.law ⟨rfl, rfl, by decide, by decide⟩) (by simp) d_law_584 (fun v102 M103 => ?_)
        refine Sm.aload_n hC d_law_587 rfl 2 rfl ?_
        refine Sm.aloadS_n hC d_law_588 rfl 0 rfl ?_
        refine Sm.iload_n hC d_law_589 rfl 3 rfl ?_
        refine Sm.iconst (v := 1) hC d_law_590 (by decide) ?_
        refine Sm.iadd hC d_law_591 ?_
        refine Sm.sci hC hX hbl hbA d_law_592 (fun v104 => ?_)
        refine Sm.callVi 11 (As := [.int v104]) (st := [.int v102]) hC hR cw_m11_run (tw_i 1177 (by decide +kernel)) (tw_i 1178 (by decide +kernel)) (tw_i 1179 (by decide +kernel)) ⟨_, rfl, rfl⟩ (fun r9 M9 h9 => ok_m11_run h9) rfl rfl (RW.law ⟨rfl, rfl, by decide, by decide⟩) (by simp) d_law_593 (fun v105 M106 => ?_)
        refine Sm.icmp_eq (tgt := 1145) hC d_law_596 (by decide) ?_ ?_
        · refine Sm.cnt (fun hN9 => ?_)
          rw [← hN9]
          exact w_law_1145 hC hR hX hbl hbA ha (s_law_18 L xs n) ih r1 r2 x3 M106
        · refine Sm.iconst (v := 0) hC d_law_599 (by decide) ?_
          exact Sm.none_
      refine Sm.if_ (fun h9 => ?_) (fun h32_13 => ?_)
      · refine Sm.tswIn (tgt := 601) hC d_law_32 (by rw [h9]; decide) (by rw [h9]; decide) (by rw [h9] <;> rfl) (by decide) ?_
        refine Sm.aload_n hC d_law_601 rfl 1 rfl ?_
        refine Sm.aloadS_n hC d_law_602 rfl 0 rfl ?_
        refine Sm.iload_n hC d_law_603 rfl 3 rfl ?_
        refine Sm.iconst (v := 1) hC d_law_604 (by decide) ?_
        refine Sm.iadd hC d_law_605 ?_
        refine Sm.sci hC hX hbl hbA d_law_606 (fun v107 => ?_)
        refine Sm.aloadS_n hC d_law_607 rfl 0 rfl ?_
        refine Sm.iload_n hC d_law_608 rfl 3 rfl ?_
        refine Sm.iconst (v := 2) hC d_law_609 (by decide) ?_
        refine Sm.iadd hC d_law_610 ?_
        refine Sm.sci hC hX hbl hbA d_law_611 (fun v108 => ?_)
        refine Sm.aloadS_n hC d_law_612 rfl 0 rfl ?_
        refine Sm.iload_n hC d_law_613 rfl 3 rfl ?_
        refine Sm.iconst (v := 3) hC d_law_614 (by decide) ?_
        refine Sm.iadd hC d_law_615 ?_
        refine Sm.sci hC hX hbl hbA d_law_616 (fun v109 => ?_)
        refine Sm.callVi 10 (As := [.int v107, .int v108, .int v109]) (st := []) hC hR cw_m10_sent (tw_i 693 (by decide +kernel)) (tw_i 694 (by decide +kernel)) (tw_i 695 (by decide +kernel)) ⟨_, rfl, rfl⟩ (fun r9 M9 h9 => ok_m10_sent h9) rfl rfl (RW.law ⟨rfl, rfl, by decide, by decide⟩) (by simp) d_law_617 (fun v110 M111 => ?_)
        refine Sm.aload_n hC d_law_620 rfl 2 rfl ?_
        refine Sm.aloadS_n hC d_law_621 rfl 0 rfl ?_
        refine Sm.iload_n hC d_law_622 rfl 3 rfl ?_
        refine Sm.iconst (v := 1) hC d_law_623 (by decide) ?_
        refine Sm.iadd hC d_law_624 ?_
        refine Sm.sci hC hX hbl hbA d_law_625 (fun v112 => ?_)
        refine Sm.aloadS_n hC d_law_626 rfl 0 rfl ?_
        refine Sm.iload_n hC d_law_627 rfl 3 rfl ?_
        refine Sm.iconst (v := 2) hC d_law_628 (by decide) ?_
        refine Sm.iadd hC d_law_629 ?_
        refine Sm.sci hC hX hbl hbA d_law_630 (fun v113 => ?_)
        refine Sm.aloadS_n hC d_law_631 rfl 0 rfl ?_
        refine Sm.iload_n hC d_law_632 rfl 3 rfl ?_
        refine Sm.iconst (v := 3) hC d_law_633 (by decide) ?_
        refine Sm.iadd hC d_law_634 ?_
        refine Sm.sci hC hX hbl hbA d_law_635 (fun v114 => ?_)
        refine Sm.callVi 11 (As := [.int v112, .int v113, .int v114]) (st := [.int v110]) hC hR cw_m11_sent (tw_i 1197 (by decide +kernel)) (tw_i 1198 (by decide +kernel)) (tw_i 1199 (by decide +kernel)) ⟨_, rfl, rfl⟩ (fun r9 M9 h9 => ok_m11_sent h9) rfl rfl (RW.law ⟨rfl, rfl, by decide, by decide⟩) (by simp) d_law_636 (fun v115 M116 => ?_)
        refine Sm.icmp_eq (tgt := 1145) hC d_law_639 (by decide) ?_ ?_
        · refine Sm.cnt (fun hN9 => ?_)
          rw [← hN9]
          exact w_law_1145 hC hR hX hbl hbA ha (s_law_18 L xs n) ih r1 r2 x3 M116
        · refine Sm.iconst (v := 0) hC d_law_642 (by decide) ?_
          exact Sm.none_
      refine Sm.if_ (fun h9 => ?_) (fun h32_14 => ?_)
      · refine Sm.tswIn (tgt := 644) hC d_law_32 (by rw [h9]; decide) (by rw [h9]; decide) (by rw [h9] <;> rfl) (by decide) ?_
        refine Sm.aload_n hC d_law_644 rfl 1 rfl ?_
        refine Sm.aloadS_n hC d_law_645 rfl 0 rfl ?_
        refine Sm.iload_n hC d_law_646 rfl 3 rfl ?_
        refine Sm.iconst (v := 1) hC d_law_647 (by decide) ?_
        refine Sm.iadd hC d_law_648 ?_
        refine Sm.sci hC hX hbl hbA d_law_649 (fun v117 => ?_)
        refine Sm.aloadS_n hC d_law_650 rfl 0 rfl ?_
        refine Sm.iload_n hC d_law_651 rfl 3 rfl ?_
        refine Sm.iconst (v := 2) hC d_law_652 (by decide) ?_
        refine Sm.iadd hC d_law_653 ?_
        refine Sm.sci hC hX hbl hbA d_law_654 (fun v118 => ?_)
        refine Sm.callVi 10 (As := [.int v117, .int v118]) (st := []) hC hR cw_m10_since (tw_i 701 (by decide +kernel)) (tw_i 702 (by decide +kernel)) (tw_i 703 (by decide +kernel)) ⟨_, rfl, rfl⟩ (fun r9 M9 h9 => ok_m10_since h9) rfl rfl (RW.law ⟨rfl, rfl, by decide, by decide⟩) (by simp) d_law_655 (fun v119 M120 => ?_)
        refine Sm.aload_n hC d_law_658 rfl 2 rfl ?_
        refine Sm.aloadS_n hC d_law_659 rfl 0 rfl ?_
        refine Sm.iload_n hC d_law_660 rfl 3 rfl ?_
        refine Sm.iconst (v := 1) hC d_law_661 (by decide) ?_
        refine Sm.iadd hC d_law_662 ?_
        refine Sm.sci hC hX hbl hbA d_law_663 (fun v121 => ?_)
        refine Sm.aloadS_n hC d_law_664 rfl 0 rfl ?_
        refine Sm.iload_n hC d_law_665 rfl 3 rfl ?_
        refine Sm.iconst (v := 2) hC d_law_666 (by decide) ?_
        refine Sm.iadd hC d_law_667 ?_
        refine Sm.sci hC hX hbl hbA d_law_668 (fun v122 => ?_)
        refine Sm.callVi 11 (As := [.int v121, .int v122]) (st := [.int v119]) hC hR cw_m11_since (tw_i 1201 (by decide +kernel)) (tw_i 1202 (by decide +kernel)) (tw_i 1203 (by decide +kernel)) ⟨_, rfl, rfl⟩ (fun r9 M9 h9 => ok_m11_since h9) rfl rfl (RW.law ⟨rfl, rfl, by decide, by decide⟩) (by simp) d_law_669 (fun v123 M124 => ?_)
        refine Sm.icmp_eq (tgt := 1145) hC d_law_672 (by decide) ?_ ?_
        · refine Sm.cnt (fun hN9 => ?_)
          rw [← hN9]
          exact w_law_1145 hC hR hX hbl hbA ha (s_law_18 L xs n) ih r1 r2 x3 M124
        · refine Sm.iconst (v := 0) hC d_law_675 (by decide) ?_
          exact Sm.none_
      refine Sm.if_ (fun h9 => ?_) (fun h32_15 => ?_)
      · refine Sm.tswIn (tgt := 677) hC d_law_32 (by rw [h9]; decide) (by rw [h9]; decide) (by rw [h9] <;> rfl) (by decide) ?_
        refine Sm.aload_n hC d_law_677 rfl 1 rfl ?_
        refine Sm.aloadS_n hC d_law_678 rfl 0 rfl ?_
        refine Sm.iload_n hC d_law_679 rfl 3 rfl ?_
        refine Sm.iconst (v := 1) hC d_law_680 (by decide) ?_
        refine Sm.iadd hC d_law_681 ?_
        refine Sm.sci hC hX hbl hbA d_law_682 (fun v125 => ?_)
        refine Sm.callVi 10 (As := [.int v125]) (st := []) hC hR cw_m10_cost (tw_i 705 (by decide +kernel)) (tw_i 706 (by decide +kernel)) (tw_i 707 (by decide +kernel)) ⟨_, rfl, rfl⟩ (fun r9 M9 h9 => ok_m10_cost h9) rfl rfl (RW.law ⟨rfl, rfl, by decide, by decide⟩) (by simp) d_law_683 (fun v126 M127 => ?_)
        refine Sm.aload_n hC d_law_686 rfl 2 rfl ?_
        refine Sm.aloadS_n hC d_law_687 rfl 0 rfl ?_
        refine Sm.iload_n hC d_law_688 rfl 3 rfl ?_
        refine Sm.iconst (v := 1) hC d_law_689 (by decide) ?_
        refine Sm.iadd hC d_law_690 ?_
        refine Sm.sci hC hX hbl hbA d_law_691 (fun v128 => ?_)
        refine Sm.callVi 11 (As := [.int v128]) (st := [.int v126]) hC hR cw_m11_cost (tw_i 1205 (by decide +kernel)) (tw_i 1206 (by decide +kernel)) (tw_i 1207 (by decide +kernel)) ⟨_, rfl, rfl⟩ (fun r9 M9 h9 => ok_m11_cost h9) rfl rfl (RW.law ⟨rfl, rfl, by decide, by decide⟩) (by simp) d_law_692 (fun v129 M130 => ?_)
        refine Sm.icmp_eq (tgt := 1145) hC d_law_695 (by decide) ?_ ?_
        · refine Sm.cnt (fun hN9 => ?_)
          rw [← hN9]
          exact w_law_1145 hC hR hX hbl hbA ha (s_law_18 L xs n) ih r1 r2 x3 M130
        · refine Sm.iconst (v := 0) hC d_law_698 (by decide) ?_
          exact Sm.none_
      refine Sm.if_ (fun h9 => ?_) (fun h32_16 => ?_)
      · refine Sm.tswIn (tgt := 700) hC d_law_32 (by rw [h9]; decide) (by rw [h9]; decide) (by rw [h9] <;> rfl) (by decide) ?_
        refine Sm.aload_n hC d_law_700 rfl 1 rfl ?_
        refine Sm.aloadS_n hC d_law_701 rfl 0 rfl ?_
        refine Sm.iload_n hC d_law_702 rfl 3 rfl ?_
        refine Sm.iconst (v := 1) hC d_law_703 (by decide) ?_
        refine Sm.iadd hC d_law_704 ?_
        refine Sm.sci hC hX hbl hbA d_law_705 (fun v131 => ?_)
        refine Sm.aloadS_n hC d_law_706 rfl 0 rfl ?_
        refine Sm.iload_n hC d_law_707 rfl 3 rfl ?_
        refine Sm.iconst (v := 2) hC d_law_708 (by decide) ?_
        refine Sm.iadd hC d_law_709 ?_
        refine Sm.sci hC hX hbl hbA d_law_710 (fun v132 => ?_)
        refine Sm.callVi 10 (As := [.int v131, .int v132]) (st := []) hC hR cw_m10_first (tw_i 709 (by decide +kernel)) (tw_i 710 (by decide +kernel)) (tw_i 711 (by decide +kernel)) ⟨_, rfl, rfl⟩ (fun r9 M9 h9 => ok_m10_first h9) rfl rfl (RW.law ⟨rfl, rfl, by decide, by decide⟩) (by simp) d_law_711 (fun v133 M134 => ?_)
        refine Sm.aload_n hC d_law_714 rfl 2 rfl ?_
        refine Sm.aloadS_n hC d_law_715 rfl 0 rfl ?_
        refine Sm.iload_n hC d_law_716 rfl 3 rfl ?_
        refine Sm.iconst (v := 1) hC d_law_717 (by decide) ?_
        refine Sm.iadd hC d_law_718 ?_
        refine Sm.sci hC hX hbl hbA d_law_719 (fun v135 => ?_)
        refine Sm.aloadS_n hC d_law_720 rfl 0 rfl ?_
        refine Sm.iload_n hC d_law_721 rfl 3 rfl ?_
        refine Sm.iconst (v := 2) hC d_law_722 (by decide) ?_
        refine Sm.iadd hC d_law_723 ?_
        refine Sm.sci hC hX hbl hbA d_law_724 (fun v136 => ?_)
        refine Sm.callVi 11 (As := [.int v135, .int v136]) (st := [.int v133]) hC hR cw_m11_first (tw_i 1209 (by decide +kernel)) (tw_i 1210 (by decide +kernel)) (tw_i 1211 (by decide +kernel)) ⟨_, rfl, rfl⟩ (fun r9 M9 h9 => ok_m11_first h9) rfl rfl (RW.law ⟨rfl, rfl, by decide, by decide⟩) (by simp) d_law_725 (fun v137 M138 => ?_)
        refine Sm.icmp_eq (tgt := 1145) hC d_law_728 (by decide) ?_ ?_
        · refine Sm.cnt (fun hN9 => ?_)
          rw [← hN9]
          exact w_law_1145 hC hR hX hbl hbA ha (s_law_18 L xs n) ih r1 r2 x3 M138
        · refine Sm.iconst (v := 0) hC d_law_731 (by decide) ?_
          exact Sm.none_
      refine Sm.if_ (fun h9 => ?_) (fun h32_17 => ?_)
      · refine Sm.tswIn (tgt := 733) hC d_law_32 (by rw [h9]; decide) (by rw [h9]; decide) (by rw [h9] <;> rfl) (by decide) ?_
        refine Sm.aload_n hC d_law_733 rfl 1 rfl ?_
        refine Sm.aloadS_n hC d_law_734 rfl 0 rfl ?_
        refine Sm.iload_n hC d_law_735 rfl 3 rfl ?_
        refine Sm.iconst (v := 1) hC d_law_736 (by decide) ?_
        refine Sm.iadd hC d_law_737 ?_
        refine Sm.sci hC hX hbl hbA d_law_738 (fun v139 => ?_)
        refine Sm.aloadS_n hC d_law_739 rfl 0 rfl ?_
        refine Sm.iload_n hC d_law_740 rfl 3 rfl ?_
        refine Sm.iconst (v := 2) hC d_law_741 (by decide) ?_
        refine Sm.iadd hC d_law_742 ?_
        refine Sm.sci hC hX hbl hbA d_law_743 (fun v140 => ?_)
        refine Sm.aloadS_n hC d_law_744 rfl 0 rfl ?_
        refine Sm.iload_n hC d_law_745 rfl 3 rfl ?_
        refine Sm.iconst (v := 3) hC d_law_746 (by decide) ?_
        refine Sm.iadd hC d_law_747 ?_
        refine Sm.sci hC hX hbl hbA d_law_748 (fun v141 => ?_)
        refine Sm.callVi 10 (As := [.int v139, .int v140, .int v141]) (st := []) hC hR cw_m10_text (tw_i 713 (by decide +kernel)) (tw_i 714 (by decide +kernel)) (tw_i 715 (by decide +kernel)) ⟨_, rfl, rfl⟩ (fun r9 M9 h9 => ok_m10_text h9) rfl rfl (RW.law ⟨rfl, rfl, by decide, by decide⟩) (by simp) d_law_749 (fun v142 M143 => ?_)
        refine Sm.aload_n hC d_law_752 rfl 2 rfl ?_
        refine Sm.aloadS_n hC d_law_753 rfl 0 rfl ?_
        refine Sm.iload_n hC d_law_754 rfl 3 rfl ?_
        refine Sm.iconst (v := 1) hC d_law_755 (by decide) ?_
        refine Sm.iadd hC d_law_756 ?_
        refine Sm.sci hC hX hbl hbA d_law_757 (fun v144 => ?_)
        refine Sm.aloadS_n hC d_law_758 rfl 0 rfl ?_
        refine Sm.iload_n hC d_law_759 rfl 3 rfl ?_
        refine Sm.iconst (v := 2) hC d_law_760 (by decide) ?_
        refine Sm.iadd hC d_law_761 ?_
        refine Sm.sci hC hX hbl hbA d_law_762 (fun v145 => ?_)
        refine Sm.aloadS_n hC d_law_763 rfl 0 rfl ?_
        refine Sm.iload_n hC d_law_764 rfl 3 rfl ?_
        refine Sm.iconst (v := 3) hC d_law_765 (by decide) ?_
        refine Sm.iadd hC d_law_766 ?_
        refine Sm.sci hC hX hbl hbA d_law_767 (fun v146 => ?_)
        refine Sm.callVi 11 (As := [.int v144, .int v145, .int v146]) (st := [.int v142]) hC hR cw_m11_text (tw_i 1213 (by decide +kernel)) (tw_i 1214 (by decide +kernel)) (tw_i 1215 (by decide +kernel)) ⟨_, rfl, rfl⟩ (fun r9 M9 h9 => ok_m11_text h9) rfl rfl (RW.law ⟨rfl, rfl, by decide, by decide⟩) (by simp) d_law_768 (fun v147 M148 => ?_)
        refine Sm.icmp_eq (tgt := 1145) hC d_law_771 (by decide) ?_ ?_
        · refine Sm.cnt (fun hN9 => ?_)
          rw [← hN9]
          exact w_law_1145 hC hR hX hbl hbA ha (s_law_18 L xs n) ih r1 r2 x3 M148
        · refine Sm.iconst (v := 0) hC d_law_774 (by decide) ?_
          exact Sm.none_
      refine Sm.if_ (fun h9 => ?_) (fun h32_18 => ?_)
      · refine Sm.tswIn (tgt := 776) hC d_law_32 (by rw [h9]; decide) (by rw [h9]; decide) (by rw [h9] <;> rfl) (by decide) ?_
        refine Sm.aload_n hC d_law_776 rfl 1 rfl ?_
        refine Sm.aloadS_n hC d_law_777 rfl 0 rfl ?_
        refine Sm.iload_n hC d_law_778 rfl 3 rfl ?_
        refine Sm.iconst (v := 1) hC d_law_779 (by decide) ?_
        refine Sm.iadd hC d_law_780 ?_
        refine Sm.sci hC hX hbl hbA d_law_781 (fun v149 => ?_)
        refine Sm.aloadS_n hC d_law_782 rfl 0 rfl ?_
        refine Sm.iload_n hC d_law_783 rfl 3 rfl ?_
        refine Sm.iconst (v := 2) hC d_law_784 (by decide) ?_
        refine Sm.iadd hC d_law_785 ?_
        refine Sm.sci hC hX hbl hbA d_law_786 (fun v150 => ?_)
        refine Sm.aloadS_n hC d_law_787 rfl 0 rfl ?_
        refine Sm.iload_n hC d_law_788 rfl 3 rfl ?_
        refine Sm.iconst (v := 3) hC d_law_789 (by decide) ?_
        refine Sm.iadd hC d_law_790 ?_
        refine Sm.sci hC hX hbl hbA d_law_791 (fun v151 => ?_)
        refine Sm.callVi 10 (As := [.int v149, .int v150, .int v151]) (st := []) hC hR cw_m10_read (tw_i 771 (by decide +kernel)) (tw_i 772 (by decide +kernel)) (tw_i 773 (by decide +kernel)) ⟨_, rfl, rfl⟩ (fun r9 M9 h9 => ok_m10_read h9) rfl rfl (RW.law ⟨rfl, rfl, by decide, by decide⟩) (by simp) d_law_792 (fun v152 M153 => ?_)
        refine Sm.aload_n hC d_law_795 rfl 2 rfl ?_
        refine Sm.aloadS_n hC d_law_796 rfl 0 rfl ?_
        refine Sm.iload_n hC d_law_797 rfl 3 rfl ?_
        refine Sm.iconst (v := 1) hC d_law_798 (by decide) ?_
        refine Sm.iadd hC d_law_799 ?_
        refine Sm.sci hC hX hbl hbA d_law_800 (fun v154 => ?_)
        refine Sm.aloadS_n hC d_law_801 rfl 0 rfl ?_
        refine Sm.iload_n hC d_law_802 rfl 3 rfl ?_
        refine Sm.iconst (v := 2) hC d_law_803 (by decide) ?_
        refine Sm.iadd hC d_law_804 ?_
        refine Sm.sci hC hX hbl hbA d_law_805 (fun v155 => ?_)
        refine Sm.aloadS_n hC d_law_806 rfl 0 rfl ?_
        refine Sm.iload_n hC d_law_807 rfl 3 rfl ?_
        refine Sm.iconst (v := 3) hC d_law_808 (by decide) ?_
        refine Sm.iadd hC d_law_809 ?_
        refine Sm.sci hC hX hbl hbA d_law_810 (fun v156 => ?_)
        refine Sm.callVi 11 (As := [.int v154, .int v155, .int v156]) (st := [.int v152]) hC hR cw_m11_read (tw_i 1249 (by decide +kernel)) (tw_i 1250 (by decide +kernel)) (tw_i 1251 (by decide +kernel)) ⟨_, rfl, rfl⟩ (fun r9 M9 h9 => ok_m11_read h9) rfl rfl (RW.law ⟨rfl, rfl, by decide, by decide⟩) (by simp) d_law_811 (fun v157 M158 => ?_)
        refine Sm.icmp_eq (tgt := 1145) hC d_law_814 (by decide) ?_ ?_
        · refine Sm.cnt (fun hN9 => ?_)
          rw [← hN9]
          exact w_law_1145 hC hR hX hbl hbA ha (s_law_18 L xs n) ih r1 r2 x3 M158
        · refine Sm.iconst (v := 0) hC d_law_817 (by decide) ?_
          exact Sm.none_
      refine Sm.if_ (fun h9 => ?_) (fun h32_19 => ?_)
      · refine Sm.tswIn (tgt := 819) hC d_law_32 (by rw [h9]; decide) (by rw [h9]; decide) (by rw [h9] <;> rfl) (by decide) ?_
        refine Sm.aload_n hC d_law_819 rfl 1 rfl ?_
        refine Sm.aloadS_n hC d_law_820 rfl 0 rfl ?_
        refine Sm.iload_n hC d_law_821 rfl 3 rfl ?_
        refine Sm.iconst (v := 1) hC d_law_822 (by decide) ?_
        refine Sm.iadd hC d_law_823 ?_
        refine Sm.sci hC hX hbl hbA d_law_824 (fun v159 => ?_)
        refine Sm.aloadS_n hC d_law_825 rfl 0 rfl ?_
        refine Sm.iload_n hC d_law_826 rfl 3 rfl ?_
        refine Sm.iconst (v := 2) hC d_law_827 (by decide) ?_
        refine Sm.iadd hC d_law_828 ?_
        refine Sm.sci hC hX hbl hbA d_law_829 (fun v160 => ?_)
        refine Sm.aloadS_n hC d_law_830 rfl 0 rfl ?_
        refine Sm.iload_n hC d_law_831 rfl 3 rfl ?_
        refine Sm.iconst (v := 3) hC d_law_832 (by decide) ?_
        refine Sm.iadd hC d_law_833 ?_
        refine Sm.sci hC hX hbl hbA d_law_834 (fun v161 => ?_)
        refine Sm.callVi 10 (As := [.int v159, .int v160, .int v161]) (st := []) hC hR cw_m10_from (tw_i 779 (by decide +kernel)) (tw_i 780 (by decide +kernel)) (tw_i 781 (by decide +kernel)) ⟨_, rfl, rfl⟩ (fun r9 M9 h9 => ok_m10_from h9) rfl rfl (RW.law ⟨rfl, rfl, by decide, by decide⟩) (by simp) d_law_835 (fun v162 M163 => ?_)
        refine Sm.aload_n hC d_law_838 rfl 2 rfl ?_
        refine Sm.aloadS_n hC d_law_839 rfl 0 rfl ?_
        refine Sm.iload_n hC d_law_840 rfl 3 rfl ?_
        refine Sm.iconst (v := 1) hC d_law_841 (by decide) ?_
        refine Sm.iadd hC d_law_842 ?_
        refine Sm.sci hC hX hbl hbA d_law_843 (fun v164 => ?_)
        refine Sm.aloadS_n hC d_law_844 rfl 0 rfl ?_
        refine Sm.iload_n hC d_law_845 rfl 3 rfl ?_
        refine Sm.iconst (v := 2) hC d_law_846 (by decide) ?_
        refine Sm.iadd hC d_law_847 ?_
        refine Sm.sci hC hX hbl hbA d_law_848 (fun v165 => ?_)
        refine Sm.aloadS_n hC d_law_849 rfl 0 rfl ?_
        refine Sm.iload_n hC d_law_850 rfl 3 rfl ?_
        refine Sm.iconst (v := 3) hC d_law_851 (by decide) ?_
        refine Sm.iadd hC d_law_852 ?_
        refine Sm.sci hC hX hbl hbA d_law_853 (fun v166 => ?_)
        refine Sm.callVi 11 (As := [.int v164, .int v165, .int v166]) (st := [.int v162]) hC hR cw_m11_from (tw_i 1253 (by decide +kernel)) (tw_i 1254 (by decide +kernel)) (tw_i 1255 (by decide +kernel)) ⟨_, rfl, rfl⟩ (fun r9 M9 h9 => ok_m11_from h9) rfl rfl (RW.law ⟨rfl, rfl, by decide, by decide⟩) (by simp) d_law_854 (fun v167 M168 => ?_)
        refine Sm.icmp_eq (tgt := 1145) hC d_law_857 (by decide) ?_ ?_
        · refine Sm.cnt (fun hN9 => ?_)
          rw [← hN9]
          exact w_law_1145 hC hR hX hbl hbA ha (s_law_18 L xs n) ih r1 r2 x3 M168
        · refine Sm.iconst (v := 0) hC d_law_860 (by decide) ?_
          exact Sm.none_
      refine Sm.if_ (fun h9 => ?_) (fun h32_20 => ?_)
      · refine Sm.tswIn (tgt := 862) hC d_law_32 (by rw [h9]; decide) (by rw [h9]; decide) (by rw [h9] <;> rfl) (by decide) ?_
        refine Sm.aload_n hC d_law_862 rfl 1 rfl ?_
        refine Sm.aloadS_n hC d_law_863 rfl 0 rfl ?_
        refine Sm.iload_n hC d_law_864 rfl 3 rfl ?_
        refine Sm.iconst (v := 1) hC d_law_865 (by decide) ?_
        refine Sm.iadd hC d_law_866 ?_
        refine Sm.sci hC hX hbl hbA d_law_867 (fun v169 => ?_)
        refine Sm.callVi 10 (As := [.int v169]) (st := []) hC hR cw_m10_edition (tw_i 783 (by decide +kernel)) (tw_i 784 (by decide +kernel)) (tw_i 785 (by decide +kernel)) ⟨_, rfl, rfl⟩ (fun r9 M9 h9 => ok_m10_edition h9) rfl rfl (RW.law ⟨rfl, rfl, by decide, by decide⟩) (by simp) d_law_868 (fun v170 M171 => ?_)
        refine Sm.aload_n hC d_law_871 rfl 2 rfl ?_
        refine Sm.aloadS_n hC d_law_872 rfl 0 rfl ?_
        refine Sm.iload_n hC d_law_873 rfl 3 rfl ?_
        refine Sm.iconst (v := 1) hC d_law_874 (by decide) ?_
        refine Sm.iadd hC d_law_875 ?_
        refine Sm.sci hC hX hbl hbA d_law_876 (fun v172 => ?_)
        refine Sm.callVi 11 (As := [.int v172]) (st := [.int v170]) hC hR cw_m11_edition (tw_i 1257 (by decide +kernel)) (tw_i 1258 (by decide +kernel)) (tw_i 1259 (by decide +kernel)) ⟨_, rfl, rfl⟩ (fun r9 M9 h9 => ok_m11_edition h9) rfl rfl (RW.law ⟨rfl, rfl, by decide, by decide⟩) (by simp) d_law_877 (fun v173 M174 => ?_)
        refine Sm.icmp_eq (tgt := 1145) hC d_law_880 (by decide) ?_ ?_
        · refine Sm.cnt (fun hN9 => ?_)
          rw [← hN9]
          exact w_law_1145 hC hR hX hbl hbA ha (s_law_18 L xs n) ih r1 r2 x3 M174
        · refine Sm.iconst (v := 0) hC d_law_883 (by decide) ?_
          exact Sm.none_
      refine Sm.if_ (fun h9 => ?_) (fun h32_21 => ?_)
      · refine Sm.tswIn (tgt := 885) hC d_law_32 (by rw [h9]; decide) (by rw [h9]; decide) (by rw [h9] <;> rfl) (by decide) ?_
        refine Sm.aload_n hC d_law_885 rfl 1 rfl ?_
        refine Sm.aloadS_n hC d_law_886 rfl 0 rfl ?_
        refine Sm.iload_n hC d_law_887 rfl 3 rfl ?_
        refine Sm.iconst (v := 1) hC d_law_888 (by decide) ?_
        refine Sm.iadd hC d_law_889 ?_
        refine Sm.sci hC hX hbl hbA d_law_890 (fun v175 => ?_)
        refine Sm.aloadS_n hC d_law_891 rfl 0 rfl ?_
        refine Sm.iload_n hC d_law_892 rfl 3 rfl ?_
        refine Sm.iconst (v := 2) hC d_law_893 (by decide) ?_
        refine Sm.iadd hC d_law_894 ?_
        refine Sm.sci hC hX hbl hbA d_law_895 (fun v176 => ?_)
        refine Sm.callVi 10 (As := [.int v175, .int v176]) (st := []) hC hR cw_m10_printed (tw_i 791 (by decide +kernel)) (tw_i 792 (by decide +kernel)) (tw_i 793 (by decide +kernel)) ⟨_, rfl, rfl⟩ (fun r9 M9 h9 => ok_m10_printed h9) rfl rfl (RW.law ⟨rfl, rfl, by decide, by decide⟩) (by simp) d_law_896 (fun v177 M178 => ?_)
        refine Sm.aload_n hC d_law_899 rfl 2 rfl ?_
        refine Sm.aloadS_n hC d_law_900 rfl 0 rfl ?_
        refine Sm.iload_n hC d_law_901 rfl 3 rfl ?_
        refine Sm.iconst (v := 1) hC d_law_902 (by decide) ?_
        refine Sm.iadd hC d_law_903 ?_
        refine Sm.sci hC hX hbl hbA d_law_904 (fun v179 => ?_)
        refine Sm.aloadS_n hC d_law_905 rfl 0 rfl ?_
        refine Sm.iload_n hC d_law_906 rfl 3 rfl ?_
        refine Sm.iconst (v := 2) hC d_law_907 (by decide) ?_
        refine Sm.iadd hC d_law_908 ?_
        refine Sm.sci hC hX hbl hbA d_law_909 (fun v180 => ?_)
        refine Sm.callVi 11 (As := [.int v179, .int v180]) (st := [.int v177]) hC hR cw_m11_printed (tw_i 1261 (by decide +kernel)) (tw_i 1262 (by decide +kernel)) (tw_i 1263 (by decide +kernel)) ⟨_, rfl, rfl⟩ (fun r9 M9 h9 => ok_m11_printed h9) rfl rfl (RW.law ⟨rfl, rfl, by decide, by decide⟩) (by simp) d_law_910 (fun v181 M182 => ?_)
        refine Sm.icmp_eq (tgt := 1145) hC d_law_913 (by decide) ?_ ?_
        · refine Sm.cnt (fun hN9 => ?_)
          rw [← hN9]
          exact w_law_1145 hC hR hX hbl hbA ha (s_law_18 L xs n) ih r1 r2 x3 M182
        · refine Sm.iconst (v := 0) hC d_law_916 (by decide) ?_
          exact Sm.none_
      refine Sm.if_ (fun h9 => ?_) (fun h32_22 => ?_)
      · refine Sm.tswIn (tgt := 918) hC d_law_32 (by rw [h9]; decide) (by rw [h9]; decide) (by rw [h9] <;> rfl) (by decide) ?_
        refine Sm.aload_n hC d_law_918 rfl 1 rfl ?_
        refine Sm.aloadS_n hC d_law_919 rfl 0 rfl ?_
        refine Sm.iload_n hC d_law_920 rfl 3 rfl ?_
        refine Sm.iconst (v := 1) hC d_law_921 (by decide) ?_
        refine Sm.iadd hC d_law_922 ?_
        refine Sm.sci hC hX hbl hbA d_law_923 (fun v183 => ?_)
        refine Sm.aloadS_n hC d_law_924 rfl 0 rfl ?_
        refine Sm.iload_n hC d_law_925 rfl 3 rfl ?_
        refine Sm.iconst (v := 2) hC d_law_926 (by decide) ?_
        refine Sm.iadd hC d_law_927 ?_
        refine Sm.sci hC hX hbl hbA d_law_928 (fun v184 => ?_)
        refine Sm.callVi 10 (As := [.int v183, .int v184]) (st := []) hC hR cw_m10_worth (tw_i 808 (by decide +kernel)) (tw_i 809 (by decide +kernel)) (tw_i 810 (by decide +kernel)) ⟨_, rfl, rfl⟩ (fun r9 M9 h9 => ok_m10_worth h9) rfl rfl (RW.law ⟨rfl, rfl, by decide, by decide⟩) (by simp) d_law_929 (fun v185 M186 => ?_)
        refine Sm.aload_n hC d_law_932 rfl 2 rfl ?_
        refine Sm.aloadS_n hC d_law_933 rfl 0 rfl ?_
        refine Sm.iload_n hC d_law_934 rfl 3 rfl ?_
        refine Sm.iconst (v := 1) hC d_law_935 (by decide) ?_
        refine Sm.iadd hC d_law_936 ?_
        refine Sm.sci hC hX hbl hbA d_law_937 (fun v187 => ?_)
        refine Sm.aloadS_n hC d_law_938 rfl 0 rfl ?_
        refine Sm.iload_n hC d_law_939 rfl 3 rfl ?_
        refine Sm.iconst (v := 2) hC d_law_940 (by decide) ?_
        refine Sm.iadd hC d_law_941 ?_
        refine Sm.sci hC hX hbl hbA d_law_942 (fun v188 => ?_)
        refine Sm.callVi 11 (As := [.int v187, .int v188]) (st := [.int v185]) hC hR cw_m11_worth (tw_i 1269 (by decide +kernel)) (tw_i 1270 (by decide +kernel)) (tw_i 1271 (by decide +kernel)) ⟨_, rfl, rfl⟩ (fun r9 M9 h9 => ok_m11_worth h9) rfl rfl (RW.law ⟨rfl, rfl, by decide, by decide⟩) (by simp) d_law_943 (fun v189 M190 => ?_)
        refine Sm.icmp_eq (tgt := 1145) hC d_law_946 (by decide) ?_ ?_
        · refine Sm.cnt (fun hN9 => ?_)
          rw [← hN9]
          exact w_law_1145 hC hR hX hbl hbA ha (s_law_18 L xs n) ih r1 r2 x3 M190
        · refine Sm.iconst (v := 0) hC d_law_949 (by decide) ?_
          exact Sm.none_
      refine Sm.if_ (fun h9 => ?_) (fun h32_23 => ?_)
      · refine Sm.tswIn (tgt := 951) hC d_law_32 (by rw [h9]; decide) (by rw [h9]; decide) (by rw [h9] <;> rfl) (by decide) ?_
        refine Sm.aload_n hC d_law_951 rfl 1 rfl ?_
        refine Sm.callVi 10 (As := []) (st := []) hC hR cw_m10_plan (tw_i 824 (by decide +kernel)) (tw_i 825 (by decide +kernel)) (tw_i 826 (by decide +kernel)) ⟨_, rfl, rfl⟩ (fun r9 M9 h9 => ok_m10_plan h9) rfl rfl (RW.law ⟨rfl, rfl, by decide, by decide⟩) (by simp) d_law_952 (fun v191 M192 => ?_)
        refine Sm.aload_n hC d_law_955 rfl 2 rfl ?_
        refine Sm.callVi 11 (As := []) (st := [.int v191]) hC hR cw_m11_plan (tw_i 1273 (by decide +kernel)) (tw_i 1274 (by decide +kernel)) (tw_i 1275 (by decide +kernel)) ⟨_, rfl, rfl⟩ (fun r9 M9 h9 => ok_m11_plan h9) rfl rfl (RW.law ⟨rfl, rfl, by decide, by decide⟩) (by simp) d_law_956 (fun v193 M194 => ?_)
        refine Sm.icmp_eq (tgt := 1145) hC d_law_959 (by decide) ?_ ?_
        · refine Sm.cnt (fun hN9 => ?_)
          rw [← hN9]
          exact w_law_1145 hC hR hX hbl hbA ha (s_law_18 L xs n) ih r1 r2 x3 M194
        · refine Sm.iconst (v := 0) hC d_law_962 (by decide) ?_
          exact Sm.none_
      refine Sm.if_ (fun h9 => ?_) (fun h32_24 => ?_)
      · refine Sm.tswIn (tgt := 964) hC d_law_32 (by rw [h9]; decide) (by rw [h9]; decide) (by rw [h9] <;> rfl) (by decide) ?_
        refine Sm.aload_n hC d_law_964 rfl 1 rfl ?_
        refine Sm.aloadS_n hC d_law_965 rfl 0 rfl ?_
        refine Sm.iload_n hC d_law_966 rfl 3 rfl ?_
        refine Sm.iconst (v := 1) hC d_law_967 (by decide) ?_
        refine Sm.iadd hC d_law_968 ?_
        refine Sm.sci hC hX hbl hbA d_law_969 (fun v195 => ?_)
        refine Sm.callVi 10 (As := [.int v195]) (st := []) hC hR cw_m10_count (tw_i 828 (by decide +kernel)) (tw_i 829 (by decide +kernel)) (tw_i 830 (by decide +kernel)) ⟨_, rfl, rfl⟩ (fun r9 M9 h9 => ok_m10_count h9) rfl rfl (RW.law ⟨rfl, rfl, by decide, by decide⟩) (by simp) d_law_970 (fun v196 M197 => ?_)
        refine Sm.aload_n hC d_law_973 rfl 2 rfl ?_
        refine Sm.aloadS_n hC d_law_974 rfl 0 rfl ?_
        refine Sm.iload_n hC d_law_975 rfl 3 rfl ?_
        refine Sm.iconst (v := 1) hC d_law_976 (by decide) ?_
        refine Sm.iadd hC d_law_977 ?_
        refine Sm.sci hC hX hbl hbA d_law_978 (fun v198 => ?_)
        refine Sm.callVi 11 (As := [.int v198]) (st := [.int v196]) hC hR cw_m11_count (tw_i 1277 (by decide +kernel)) (tw_i 1278 (by decide +kernel)) (tw_i 1279 (by decide +kernel)) ⟨_, rfl, rfl⟩ (fun r9 M9 h9 => ok_m11_count h9) rfl rfl (RW.law ⟨rfl, rfl, by decide, by decide⟩) (by simp) d_law_979 (fun v199 M200 => ?_)
        refine Sm.icmp_eq (tgt := 1145) hC d_law_982 (by decide) ?_ ?_
        · refine Sm.cnt (fun hN9 => ?_)
          rw [← hN9]
          exact w_law_1145 hC hR hX hbl hbA ha (s_law_18 L xs n) ih r1 r2 x3 M200
        · refine Sm.iconst (v := 0) hC d_law_985 (by decide) ?_
          exact Sm.none_
      refine Sm.if_ (fun h9 => ?_) (fun h32_25 => ?_)
      · refine Sm.tswIn (tgt := 987) hC d_law_32 (by rw [h9]; decide) (by rw [h9]; decide) (by rw [h9] <;> rfl) (by decide) ?_
        refine Sm.aload_n hC d_law_987 rfl 1 rfl ?_
        refine Sm.aloadS_n hC d_law_988 rfl 0 rfl ?_
        refine Sm.iload_n hC d_law_989 rfl 3 rfl ?_
        refine Sm.iconst (v := 1) hC d_law_990 (by decide) ?_
        refine Sm.iadd hC d_law_991 ?_
        refine Sm.sci hC hX hbl hbA d_law_992 (fun v201 => ?_)
        refine Sm.aloadS_n hC d_law_993 rfl 0 rfl ?_
        refine Sm.iload_n hC d_law_994 rfl 3 rfl ?_
        refine Sm.iconst (v := 2) hC d_law_995 (by decide) ?_
        refine Sm.iadd hC d_law_996 ?_
        refine Sm.sci hC hX hbl hbA d_law_997 (fun v202 => ?_)
        refine Sm.callVi 10 (As := [.int v201, .int v202]) (st := []) hC hR cw_m10_tell (tw_i 832 (by decide +kernel)) (tw_i 833 (by decide +kernel)) (tw_i 834 (by decide +kernel)) ⟨_, rfl, rfl⟩ (fun r9 M9 h9 => ok_m10_tell h9) rfl rfl (RW.law ⟨rfl, rfl, by decide, by decide⟩) (by simp) d_law_998 (fun v203 M204 => ?_)
        refine Sm.aload_n hC d_law_1001 rfl 2 rfl ?_
        refine Sm.aloadS_n hC d_law_1002 rfl 0 rfl ?_
        refine Sm.iload_n hC d_law_1003 rfl 3 rfl ?_
        refine Sm.iconst (v := 1) hC d_law_1004 (by decide) ?_
        refine Sm.iadd hC d_law_1005 ?_
        refine Sm.sci hC hX hbl hbA d_law_1006 (fun v205 => ?_)
        refine Sm.aloadS_n hC d_law_1007 rfl 0 rfl ?_
        refine Sm.iload_n hC d_law_1008 rfl 3 rfl ?_
        refine Sm.iconst (v := 2) hC d_law_1009 (by decide) ?_
        refine Sm.iadd hC d_law_1010 ?_
        refine Sm.sci hC hX hbl hbA d_law_1011 (fun v206 => ?_)
        refine Sm.callVi 11 (As := [.int v205, .int v206]) (st := [.int v203]) hC hR cw_m11_tell (tw_i 1281 (by decide +kernel)) (tw_i 1282 (by decide +kernel)) (tw_i 1283 (by decide +kernel)) ⟨_, rfl, rfl⟩ (fun r9 M9 h9 => ok_m11_tell h9) rfl rfl (RW.law ⟨rfl, rfl, by decide, by decide⟩) (by simp) d_law_1012 (fun v207 M208 => ?_)
        refine Sm.icmp_eq (tgt := 1145) hC d_law_1015 (by decide) ?_ ?_
        · refine Sm.cnt (fun hN9 => ?_)
          rw [← hN9]
          exact w_law_1145 hC hR hX hbl hbA ha (s_law_18 L xs n) ih r1 r2 x3 M208
        · refine Sm.iconst (v := 0) hC d_law_1018 (by decide) ?_
          exact Sm.none_
      refine Sm.if_ (fun h9 => ?_) (fun h32_26 => ?_)
      · refine Sm.tswIn (tgt := 1020) hC d_law_32 (by rw [h9]; decide) (by rw [h9]; decide) (by rw [h9] <;> rfl) (by decide) ?_
        refine Sm.aload_n hC d_law_1020 rfl 1 rfl ?_
        refine Sm.aloadS_n hC d_law_1021 rfl 0 rfl ?_
        refine Sm.iload_n hC d_law_1022 rfl 3 rfl ?_
        refine Sm.iconst (v := 1) hC d_law_1023 (by decide) ?_
        refine Sm.iadd hC d_law_1024 ?_
        refine Sm.sci hC hX hbl hbA d_law_1025 (fun v209 => ?_)
        refine Sm.callVi 10 (As := [.int v209]) (st := []) hC hR cw_m10_lay (tw_i 840 (by decide +kernel)) (tw_i 841 (by decide +kernel)) (tw_i 842 (by decide +kernel)) ⟨_, rfl, rfl⟩ (fun r9 M9 h9 => ok_m10_lay h9) rfl rfl (RW.law ⟨rfl, rfl, by decide, by decide⟩) (by simp) d_law_1026 (fun v210 M211 => ?_)
        refine Sm.aload_n hC d_law_1029 rfl 2 rfl ?_
        refine Sm.aloadS_n hC d_law_1030 rfl 0 rfl ?_
        refine Sm.iload_n hC d_law_1031 rfl 3 rfl ?_
        refine Sm.iconst (v := 1) hC d_law_1032 (by decide) ?_
        refine Sm.iadd hC d_law_1033 ?_
        refine Sm.sci hC hX hbl hbA d_law_1034 (fun v212 => ?_)
        refine Sm.callVi 11 (As := [.int v212]) (st := [.int v210]) hC hR cw_m11_lay2 (tw_i 1285 (by decide +kernel)) (tw_i 1286 (by decide +kernel)) (tw_i 1287 (by decide +kernel)) ⟨_, rfl, rfl⟩ (fun r9 M9 h9 => ok_m11_lay2 h9) rfl rfl (RW.law ⟨rfl, rfl, by decide, by decide⟩) (by simp) d_law_1035 (fun v213 M214 => ?_)
        refine Sm.icmp_eq (tgt := 1145) hC d_law_1038 (by decide) ?_ ?_
        · refine Sm.cnt (fun hN9 => ?_)
          rw [← hN9]
          exact w_law_1145 hC hR hX hbl hbA ha (s_law_18 L xs n) ih r1 r2 x3 M214
        · refine Sm.iconst (v := 0) hC d_law_1041 (by decide) ?_
          exact Sm.none_
      refine Sm.if_ (fun h9 => ?_) (fun h32_27 => ?_)
      · refine Sm.tswIn (tgt := 1043) hC d_law_32 (by rw [h9]; decide) (by rw [h9]; decide) (by rw [h9] <;> rfl) (by decide) ?_
        refine Sm.aload_n hC d_law_1043 rfl 1 rfl ?_
        refine Sm.callVi 10 (As := []) (st := []) hC hR cw_m10_tear (tw_i 844 (by decide +kernel)) (tw_i 845 (by decide +kernel)) (tw_i 846 (by decide +kernel)) ⟨_, rfl, rfl⟩ (fun r9 M9 h9 => ok_m10_tear h9) rfl rfl (RW.law ⟨rfl, rfl, by decide, by decide⟩) (by simp) d_law_1044 (fun v215 M216 => ?_)
        refine Sm.aload_n hC d_law_1047 rfl 2 rfl ?_
        refine Sm.callVi 11 (As := []) (st := [.int v215]) hC hR cw_m11_tear (tw_i 1289 (by decide +kernel)) (tw_i 1290 (by decide +kernel)) (tw_i 1291 (by decide +kernel)) ⟨_, rfl, rfl⟩ (fun r9 M9 h9 => ok_m11_tear h9) rfl rfl (RW.law ⟨rfl, rfl, by decide, by decide⟩) (by simp) d_law_1048 (fun v217 M218 => ?_)
        refine Sm.icmp_eq (tgt := 1145) hC d_law_1051 (by decide) ?_ ?_
        · refine Sm.cnt (fun hN9 => ?_)
          rw [← hN9]
          exact w_law_1145 hC hR hX hbl hbA ha (s_law_18 L xs n) ih r1 r2 x3 M218
        · refine Sm.iconst (v := 0) hC d_law_1054 (by decide) ?_
          exact Sm.none_
      refine Sm.if_ (fun h9 => ?_) (fun h32_28 => ?_)
      · refine Sm.tswIn (tgt := 1056) hC d_law_32 (by rw [h9]; decide) (by rw [h9]; decide) (by rw [h9] <;> rfl) (by decide) ?_
        refine Sm.aload_n hC d_law_1056 rfl 1 rfl ?_
        refine Sm.aloadS_n hC d_law_1057 rfl 0 rfl ?_
        refine Sm.iload_n hC d_law_1058 rfl 3 rfl ?_
        refine Sm.iconst (v := 1) hC d_law_1059 (by decide) ?_
        refine Sm.iadd hC d_law_1060 ?_
        refine Sm.sci hC hX hbl hbA d_law_1061 (fun v219 => ?_)
        refine Sm.callVi 10 (As := [.int v219]) (st := []) hC hR cw_m10_row (tw_i 848 (by decide +kernel)) (tw_i 849 (by decide +kernel)) (tw_i 850 (by decide +kernel)) ⟨_, rfl, rfl⟩ (fun r9 M9 h9 => ok_m10_row h9) rfl rfl (RW.law ⟨rfl, rfl, by decide, by decide⟩) (by simp) d_law_1062 (fun v220 M221 => ?_)
        refine Sm.aload_n hC d_law_1065 rfl 2 rfl ?_
        refine Sm.aloadS_n hC d_law_1066 rfl 0 rfl ?_
        refine Sm.iload_n hC d_law_1067 rfl 3 rfl ?_
        refine Sm.iconst (v := 1) hC d_law_1068 (by decide) ?_
        refine Sm.iadd hC d_law_1069 ?_
        refine Sm.sci hC hX hbl hbA d_law_1070 (fun v222 => ?_)
        refine Sm.callVi 11 (As := [.int v222]) (st := [.int v220]) hC hR cw_m11_row (tw_i 1293 (by decide +kernel)) (tw_i 1294 (by decide +kernel)) (tw_i 1295 (by decide +kernel)) ⟨_, rfl, rfl⟩ (fun r9 M9 h9 => ok_m11_row h9) rfl rfl (RW.law ⟨rfl, rfl, by decide, by decide⟩) (by simp) d_law_1071 (fun v223 M224 => ?_)
        refine Sm.icmp_eq (tgt := 1145) hC d_law_1074 (by decide) ?_ ?_
        · refine Sm.cnt (fun hN9 => ?_)
          rw [← hN9]
          exact w_law_1145 hC hR hX hbl hbA ha (s_law_18 L xs n) ih r1 r2 x3 M224
        · refine Sm.iconst (v := 0) hC d_law_1077 (by decide) ?_
          exact Sm.none_
      refine Sm.if_ (fun h9 => ?_) (fun h32_29 => ?_)
      · refine Sm.tswIn (tgt := 1079) hC d_law_32 (by rw [h9]; decide) (by rw [h9]; decide) (by rw [h9] <;> rfl) (by decide) ?_
        refine Sm.aload_n hC d_law_1079 rfl 1 rfl ?_
        refine Sm.aloadS_n hC d_law_1080 rfl 0 rfl ?_
        refine Sm.iload_n hC d_law_1081 rfl 3 rfl ?_
        refine Sm.iconst (v := 1) hC d_law_1082 (by decide) ?_
        refine Sm.iadd hC d_law_1083 ?_
        refine Sm.sci hC hX hbl hbA d_law_1084 (fun v225 => ?_)
        refine Sm.aloadS_n hC d_law_1085 rfl 0 rfl ?_
        refine Sm.iload_n hC d_law_1086 rfl 3 rfl ?_
        refine Sm.iconst (v := 2) hC d_law_1087 (by decide) ?_
        refine Sm.iadd hC d_law_1088 ?_
        refine Sm.sci hC hX hbl hbA d_law_1089 (fun v226 => ?_)
        refine Sm.aloadS_n hC d_law_1090 rfl 0 rfl ?_
        refine Sm.iload_n hC d_law_1091 rfl 3 rfl ?_
        refine Sm.iconst (v := 3) hC d_law_1092 (by decide) ?_
        refine Sm.iadd hC d_law_1093 ?_
        refine Sm.sci hC hX hbl hbA d_law_1094 (fun v227 => ?_)
        refine Sm.callVi 10 (As := [.int v225, .int v226, .int v227]) (st := []) hC hR cw_m10_copy (tw_i 852 (by decide +kernel)) (tw_i 853 (by decide +kernel)) (tw_i 854 (by decide +kernel)) ⟨_, rfl, rfl⟩ (fun r9 M9 h9 => ok_m10_copy h9) rfl rfl (RW.law ⟨rfl, rfl, by decide, by decide⟩) (by simp) d_law_1095 (fun v228 M229 => ?_)
        refine Sm.aload_n hC d_law_1098 rfl 2 rfl ?_
        refine Sm.aloadS_n hC d_law_1099 rfl 0 rfl ?_
        refine Sm.iload_n hC d_law_1100 rfl 3 rfl ?_
        refine Sm.iconst (v := 1) hC d_law_1101 (by decide) ?_
        refine Sm.iadd hC d_law_1102 ?_
        refine Sm.sci hC hX hbl hbA d_law_1103 (fun v230 => ?_)
        refine Sm.aloadS_n hC d_law_1104 rfl 0 rfl ?_
        refine Sm.iload_n hC d_law_1105 rfl 3 rfl ?_
        refine Sm.iconst (v := 2) hC d_law_1106 (by decide) ?_
        refine Sm.iadd hC d_law_1107 ?_
        refine Sm.sci hC hX hbl hbA d_law_1108 (fun v231 => ?_)
        refine Sm.aloadS_n hC d_law_1109 rfl 0 rfl ?_
        refine Sm.iload_n hC d_law_1110 rfl 3 rfl ?_
        refine Sm.iconst (v := 3) hC d_law_1111 (by decide) ?_
        refine Sm.iadd hC d_law_1112 ?_
        refine Sm.sci hC hX hbl hbA d_law_1113 (fun v232 => ?_)
        refine Sm.callVi 11 (As := [.int v230, .int v231, .int v232]) (st := [.int v228]) hC hR cw_m11_copy (tw_i 1297 (by decide +kernel)) (tw_i 1298 (by decide +kernel)) (tw_i 1299 (by decide +kernel)) ⟨_, rfl, rfl⟩ (fun r9 M9 h9 => ok_m11_copy h9) rfl rfl (RW.law ⟨rfl, rfl, by decide, by decide⟩) (by simp) d_law_1114 (fun v233 M234 => ?_)
        refine Sm.icmp_eq (tgt := 1145) hC d_law_1117 (by decide) ?_ ?_
        · refine Sm.cnt (fun hN9 => ?_)
          rw [← hN9]
          exact w_law_1145 hC hR hX hbl hbA ha (s_law_18 L xs n) ih r1 r2 x3 M234
        · refine Sm.iconst (v := 0) hC d_law_1120 (by decide) ?_
          exact Sm.none_
      refine Sm.if_ (fun h9 => ?_) (fun h32_30 => ?_)
      · refine Sm.tswIn (tgt := 1122) hC d_law_32 (by rw [h9]; decide) (by rw [h9]; decide) (by rw [h9] <;> rfl) (by decide) ?_
        refine Sm.aload_n hC d_law_1122 rfl 1 rfl ?_
        refine Sm.aloadS_n hC d_law_1123 rfl 0 rfl ?_
        refine Sm.iload_n hC d_law_1124 rfl 3 rfl ?_
        refine Sm.iconst (v := 1) hC d_law_1125 (by decide) ?_
        refine Sm.iadd hC d_law_1126 ?_
        refine Sm.sci hC hX hbl hbA d_law_1127 (fun v235 => ?_)
        refine Sm.callVi 10 (As := [.int v235]) (st := []) hC hR cw_m10_status (tw_i 856 (by decide +kernel)) (tw_i 857 (by decide +kernel)) (tw_i 858 (by decide +kernel)) ⟨_, rfl, rfl⟩ (fun r9 M9 h9 => ok_m10_status h9) rfl rfl (RW.law ⟨rfl, rfl, by decide, by decide⟩) (by simp) d_law_1128 (fun v236 M237 => ?_)
        refine Sm.aload_n hC d_law_1131 rfl 2 rfl ?_
        refine Sm.aloadS_n hC d_law_1132 rfl 0 rfl ?_
        refine Sm.iload_n hC d_law_1133 rfl 3 rfl ?_
        refine Sm.iconst (v := 1) hC d_law_1134 (by decide) ?_
        refine Sm.iadd hC d_law_1135 ?_
        refine Sm.sci hC hX hbl hbA d_law_1136 (fun v238 => ?_)
        refine Sm.callVi 11 (As := [.int v238]) (st := [.int v236]) hC hR cw_m11_status (tw_i 1041 (by decide +kernel)) (tw_i 1042 (by decide +kernel)) (tw_i 1043 (by decide +kernel)) ⟨_, rfl, rfl⟩ (fun r9 M9 h9 => ok_m11_status h9) rfl rfl (RW.law ⟨rfl, rfl, by decide, by decide⟩) (by simp) d_law_1137 (fun v239 M240 => ?_)
        refine Sm.icmp_eq (tgt := 1145) hC d_law_1140 (by decide) ?_ ?_
        · refine Sm.cnt (fun hN9 => ?_)
          rw [← hN9]
          exact w_law_1145 hC hR hX hbl hbA ha (s_law_18 L xs n) ih r1 r2 x3 M240
        · refine Sm.iconst (v := 0) hC d_law_1143 (by decide) ?_
          exact Sm.none_
      refine Sm.tswOut (tgt := 1145) hC d_law_32 (out_of (n := 31) (by decide) (lt_s (p := fun i => ¬ (v2 &&& (31 : Int32)) = Int32.ofNat i) (lt_s (p := fun i => ¬ (v2 &&& (31 : Int32)) = Int32.ofNat i) (lt_s (p := fun i => ¬ (v2 &&& (31 : Int32)) = Int32.ofNat i) (lt_s (p := fun i => ¬ (v2 &&& (31 : Int32)) = Int32.ofNat i) (lt_s (p := fun i => ¬ (v2 &&& (31 : Int32)) = Int32.ofNat i) (lt_s (p := fun i => ¬ (v2 &&& (31 : Int32)) = Int32.ofNat i) (lt_s (p := fun i => ¬ (v2 &&& (31 : Int32)) = Int32.ofNat i) (lt_s (p := fun i => ¬ (v2 &&& (31 : Int32)) = Int32.ofNat i) (lt_s (p := fun i => ¬ (v2 &&& (31 : Int32)) = Int32.ofNat i) (lt_s (p := fun i => ¬ (v2 &&& (31 : Int32)) = Int32.ofNat i) (lt_s (p := fun i => ¬ (v2 &&& (31 : Int32)) = Int32.ofNat i) (lt_s (p := fun i => ¬ (v2 &&& (31 : Int32)) = Int32.ofNat i) (lt_s (p := fun i => ¬ (v2 &&& (31 : Int32)) = Int32.ofNat i) (lt_s (p := fun i => ¬ (v2 &&& (31 : Int32)) = Int32.ofNat i) (lt_s (p := fun i => ¬ (v2 &&& (31 : Int32)) = Int32.ofNat i) (lt_s (p := fun i => ¬ (v2 &&& (31 : Int32)) = Int32.ofNat i) (lt_s (p := fun i => ¬ (v2 &&& (31 : Int32)) = Int32.ofNat i) (lt_s (p := fun i => ¬ (v2 &&& (31 : Int32)) = Int32.ofNat i) (lt_s (p := fun i => ¬ (v2 &&& (31 : Int32)) = Int32.ofNat i) (lt_s (p := fun i => ¬ (v2 &&& (31 : Int32)) = Int32.ofNat i) (lt_s (p := fun i => ¬ (v2 &&& (31 : Int32)) = Int32.ofNat i) (lt_s (p := fun i => ¬ (v2 &&& (31 : Int32)) = Int32.ofNat i) (lt_s (p := fun i => ¬ (v2 &&& (31 : Int32)) = Int32.ofNat i) (lt_s (p := fun i => ¬ (v2 &&& (31 : Int32)) = Int32.ofNat i) (lt_s (p := fun i => ¬ (v2 &&& (31 : Int32)) = Int32.ofNat i) (lt_s (p := fun i => ¬ (v2 &&& (31 : Int32)) = Int32.ofNat i) (lt_s (p := fun i => ¬ (v2 &&& (31 : Int32)) = Int32.ofNat i) (lt_s (p := fun i => ¬ (v2 &&& (31 : Int32)) = Int32.ofNat i) (lt_s (p := fun i => ¬ (v2 &&& (31 : Int32)) = Int32.ofNat i) (lt_s (p := fun i => ¬ (v2 &&& (31 : Int32)) = Int32.ofNat i) (lt_s (p := fun i => ¬ (v2 &&& (31 : Int32)) = Int32.ofNat i) (lt_0) h32_0) h32_1) h32_2) h32_3) h32_4) h32_5) h32_6) h32_7) h32_8) h32_9) h32_10) h32_11) h32_12) h32_13) h32_14) h32_15) h32_16) h32_17) h32_18) h32_19) h32_20) h32_21) h32_22) h32_23) h32_24) h32_25) h32_26) h32_27) h32_28) h32_29) h32_30)) (by decide) ?_
      refine Sm.cnt (fun hN9 => ?_)
      rw [← hN9]
      exact w_law_1145 hC hR hX hbl hbA ha (s_law_18 L xs n) ih r1 r2 x3 M
set_option maxRecDepth 100000 in
set_option maxHeartbeats 4000000 in
theorem w_law {V : Ev} {C : Cx} {nm : String} {b L : Nat} {xs : Nat → Int32} (hC : Cok V C "NewsWireLaw" code 4 0 ret nm) (hR : cR C = room_1) (hX : va_X b L xs (cS C) (cS C).heap) (hbl : b < (cS C).heap.size) (hbA : ¬ Af V b) (ha : cA C = #[Value.ref b]) (M : Mm) : Sm V C 4 0 0 (qW C b) 0 [(0, .ref b)] [] M (s_law L xs M) := by
  unfold s_law
  refine Sm.new hC hR ⟨rfl, rfl⟩ rfl rfl in_c10 ty_c10 rfl df_c10 (tw_i 73 (by decide +kernel)) (tw_i 74 (by decide +kernel)) (tw_i 55 (by decide +kernel)) d_law_0 (fun v1 M2 => ?_)
  refine Sm.dup hC d_law_3 (cat_rv _ _) ?_
  refine Sm.clK_ (rm := rm_m10_init) (maxL := 2) (R9 := room_1) ⟨rfl, rfl⟩ ⟨rfl, rfl, by decide, by decide⟩ (fun hrw => ?_)
  refine Sm.callIv 10 (As := []) (st := [rv V.1 v1]) hC hR cw_m10_init (tw_i 75 (by decide +kernel)) (tw_i 76 (by decide +kernel)) rfl (fun r9 M9 h9 => ok_m10_init h9) rfl rfl hrw (by simp) d_law_4 (fun _ M3 => ?_)
  refine Sm.astore_n (lv' := [(1, rv V.1 v1), (0, .ref b)]) hC d_law_7 rfl (by decide) rfl ?_
  refine Sm.new hC hR ⟨rfl, rfl⟩ rfl rfl in_c11 ty_c11 rfl df_c11 (tw_i 860 (by decide +kernel)) (tw_i 861 (by decide +kernel)) (tw_i 66 (by decide +kernel)) d_law_8 (fun v4 M5 => ?_)
  refine Sm.dup hC d_law_11 (cat_rv _ _) ?_
  refine Sm.clK_ (rm := rm_m11_init) (maxL := 1) (R9 := room_1) ⟨rfl, rfl⟩ ⟨rfl, rfl, by decide, by decide⟩ (fun hrw => ?_)
  refine Sm.callIv 11 (As := []) (st := [rv V.1 v4]) hC hR cw_m11_init (tw_i 862 (by decide +kernel)) (tw_i 863 (by decide +kernel)) rfl (fun r9 M9 h9 => ok_m11_init h9) rfl rfl hrw (by simp) d_law_12 (fun _ M6 => ?_)
  refine Sm.astore_n (i := 2) (lv' := [(2, rv V.1 v4), (1, rv V.1 v1), (0, .ref b)]) hC d_law_15 rfl (by decide) (by simp [cat_rv, cat_i, cat_l, cat_f]) ?_
  refine Sm.iconst (v := 0) hC d_law_16 (by decide) ?_
  refine Sm.istore_n (i := 3) (lv' := [(3, .int (0 : Int32)), (2, rv V.1 v4), (1, rv V.1 v1), (0, .ref b)]) hC d_law_17 rfl (by decide) (by simp [cat_rv, cat_i, cat_l, cat_f]) ?_
  refine Sm.sub [3, 2, 1, 0] rfl ?_
  refine Sm.cnt (fun hN9 => ?_)
  rw [← hN9]
  exact w_law_18 hC hR hX hbl hbA ha FU v1 v4 (0 : Int32) M6
