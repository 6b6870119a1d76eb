/-! the text constants: the JDK's own members over them -/
abbrev b_slen : ByteArray := prog_15_method_54_code
abbrev b_scod : ByteArray := prog_15_method_152_code
abbrev b_scha : ByteArray := prog_15_method_56_code
abbrev b_slat : ByteArray := prog_15_method_154_code
abbrev b_lcha : ByteArray := prog_16_method_2_code
abbrev b_schk : ByteArray := prog_15_method_155_code
abbrev b_pchk : ByteArray := prog_19_method_11_code
def y_slen : MethodName := ⟨"java/lang/String", "length", "()I"⟩
def y_scod : MethodName := ⟨"java/lang/String", "coder", "()B"⟩
def y_scha : MethodName := ⟨"java/lang/String", "charAt", "(I)C"⟩
def y_slat : MethodName := ⟨"java/lang/String", "isLatin1", "()Z"⟩
def y_lcha : MethodName := ⟨"java/lang/StringLatin1", "charAt", "([BI)C"⟩
def y_schk : MethodName := ⟨"java/lang/String", "checkIndex", "(II)V"⟩
def y_pchk : MethodName := ⟨"jdk/internal/util/Preconditions", "checkIndex", "(IILjava/util/function/BiFunction;)I"⟩
theorem cw_slen : CW y_slen b_slen 1 (some .int) 0 := ⟨tw_i 68 (by decide +kernel), tw_i 504 (by decide +kernel), by decide, by decide, by decide +kernel⟩
theorem cw_scod : CW y_scod b_scod 1 (some .byte) 0 := ⟨tw_i 68 (by decide +kernel), tw_i 508 (by decide +kernel), by decide, by decide, by decide +kernel⟩
theorem cw_scha : CW y_scha b_scha 2 (some .char) 1 := ⟨tw_i 68 (by decide +kernel), tw_i 515 (by decide +kernel), by decide, by decide, by decide +kernel⟩
theorem cw_slat : CW y_slat b_slat 1 (some .boolean) 0 := ⟨tw_i 68 (by decide +kernel), tw_i 519 (by decide +kernel), by decide, by decide, by decide +kernel⟩
theorem cw_lcha : CW y_lcha b_lcha 2 (some .char) 2 := ⟨tw_i 69 (by decide +kernel), tw_i 522 (by decide +kernel), by decide, by decide, by decide +kernel⟩
theorem cw_schk : CW y_schk b_schk 2 none 2 := ⟨tw_i 68 (by decide +kernel), tw_i 525 (by decide +kernel), by decide, by decide, by decide +kernel⟩
theorem cw_pchk : CW y_pchk b_pchk 3 (some .int) 3 := ⟨tw_i 70 (by decide +kernel), tw_i 530 (by decide +kernel), by decide, by decide, by decide +kernel⟩
section RULES6
variable {α β : Type} {V : Ev} {C : Cx} {own nm : String} {cc : ByteArray} {nL n0 nc : Nat} {ret : Option FieldType} {QQ : α → State → Prop} {pc : Nat} {lv : List (Nat × Value)} {st : List Value} {M : Mm} {X : Option α}
theorem Sm.if_eqF (hC : Cok V C own cc nL n0 ret nm) {x : Int32} {off : Int} {tgt : Nat} (hd : decode cc pc = .ok (.ifCond .eq off, 3)) (ht : (pc : Int) + off = (tgt : Int)) (hx : ¬ x = 0) (k : Sm V C nL n0 nc QQ (pc + 3) lv st M X) : Sm V C nL n0 nc QQ pc lv (.int x :: st) M X := by
  have h := Sm.if_eq (x := x) (tgt := tgt) (X := none) hC hd ht Sm.none_ k
  rwa [if_neg hx] at h
theorem Sm.if_neF (hC : Cok V C own cc nL n0 ret nm) {x : Int32} {off : Int} {tgt : Nat} (hd : decode cc pc = .ok (.ifCond .ne off, 3)) (ht : (pc : Int) + off = (tgt : Int)) (hx : x = 0) (k : Sm V C nL n0 nc QQ (pc + 3) lv st M X) : Sm V C nL n0 nc QQ pc lv (.int x :: st) M X := by
  have h := Sm.if_ne (x := x) (tgt := tgt) (X := none) hC hd ht Sm.none_ k
  rwa [if_neg (fun z => z hx)] at h
theorem Sm.if_ltF (hC : Cok V C own cc nL n0 ret nm) {x : Int32} {off : Int} {tgt : Nat} (hd : decode cc pc = .ok (.ifCond .lt off, 3)) (ht : (pc : Int) + off = (tgt : Int)) (hx : ¬ x < 0) (k : Sm V C nL n0 nc QQ (pc + 3) lv st M X) : Sm V C nL n0 nc QQ pc lv (.int x :: st) M X := by
  have h := Sm.if_lt (x := x) (tgt := tgt) (X := none) hC hd ht Sm.none_ k
  rwa [if_neg hx] at h
theorem Sm.icmp_ltT (hC : Cok V C own cc nL n0 ret nm) {x y : Int32} {off : Int} {tgt : Nat} (hd : decode cc pc = .ok (.if_icmp .lt off, 3)) (ht : (pc : Int) + off = (tgt : Int)) (hx : x < y) (k : Sm V C nL n0 nc QQ tgt lv st M X) : Sm V C nL n0 nc QQ pc lv (.int y :: .int x :: st) M X := by
  have h := Sm.icmp_lt (x := x) (y := y) (tgt := tgt) (Y := none) hC hd ht k Sm.none_
  rwa [if_pos hx] at h
theorem Sm.popAny (hC : Cok V C own cc nL n0 ret nm) {x : Int32} (hd : decode cc pc = .ok (.pop, 1)) (k : Sm V C nL n0 nc QQ (pc + 1) lv st M X) : Sm V C nL n0 nc QQ pc lv (.int x :: st) M X := Sm.pop hC hd rfl k
theorem Sm.i2c (hC : Cok V C own cc nL n0 ret nm) {x v : Int32} (hd : decode cc pc = .ok (.i2c, 1)) (hv : (x.toUInt32 % 65536).toInt32 = v) (k : Sm V C nL n0 nc QQ (pc + 1) lv (.int v :: st) M X) : Sm V C nL n0 nc QQ pc lv (.int x :: st) M X := by
  intro H locs ls hl hh res hr
  have a1 := hC.1
  have a2 := hC.2.1
  exact lv_i2c a1 a2 hd hv (k H locs ls hl hh res hr)
theorem Sm.compact (hC : Cok V C own cc nL n0 ret nm) {index : Nat} (hl : Cond.fieldLink own index "java/lang/String" "COMPACT_STRINGS" "Z" ∈ TW) (hd : decode cc pc = .ok (.getstatic index, 3)) (k : Sm V C nL n0 nc QQ (pc + 3) lv (.int 1 :: st) M X) : Sm V C nL n0 nc QQ pc lv st M X := by
  intro H locs ls hlv hh res hr
  have a1 := hC.1
  have a2 := hC.2.1
  have a3 := hC.2.2.2.1
  have hts := hC.2.2.2.2.1
  have hz := hC.2.2.2.2.2.1.2.2.2.2.2.1
  exact va_gets a1 a2 hz hh.2.2 a3 (hts _ hl) (fun _ h => h) hd (k H locs ls hlv hh res hr)
theorem Sm.formatter (hC : Cok V C own cc nL n0 ret nm) {index : Nat} (hl : Cond.fieldLink own index "jdk/internal/util/Preconditions" "SIOOBE_FORMATTER" "Ljava/util/function/BiFunction;" ∈ TW) (hd : decode cc pc = .ok (.getstatic index, 3)) (k : ∀ q : Option Nat, Sm V C nL n0 nc QQ (pc + 3) lv (va_rf q :: st) M X) : Sm V C nL n0 nc QQ pc lv st M X := by
  intro H locs ls hlv hh res hr
  have a1 := hC.1
  have a2 := hC.2.1
  have a3 := hC.2.2.2.1
  have hts := hC.2.2.2.2.1
  have hz := hC.2.2.2.2.2.1.2.2.2.2.2.2
  rcases hz with hz | ⟨t, hz⟩
  · exact va_gets a1 a2 hz hh.2.2 a3 (hts _ hl) (fun _ h => h) hd (k none H locs ls hlv hh res hr)
  · exact va_gets a1 a2 hz hh.2.2 a3 (hts _ hl) (fun _ h => h) hd (k (some t) H locs ls hlv hh res hr)
theorem Sm.sval (hC : Cok V C own cc nL n0 ret nm) {index i : Nat} (hi : i < 14) (hl : Cond.fieldLink own index "java/lang/String" "value" "[B" ∈ TW) (hd : decode cc pc = .ok (.getfield index, 3)) (k : Sm V C nL n0 nc QQ (pc + 3) lv (.ref (V.2.2.2.2 i) :: st) M X) : Sm V C nL n0 nc QQ pc lv (.ref (V.2.2.2.1 i) :: st) M X := by
  intro H locs ls hlv hh res hr
  have a1 := hC.1
  have a2 := hC.2.1
  have a3 := hC.2.2.2.1
  have hts := hC.2.2.2.2.1
  have hz := hC.2.2.2.2.2.1.2.2.2.2.1.1 i hi
  exact vk_getf a1 a2 hz.2.2.1 hh.2.2 a3 (hts _ hl) (fun _ h => h) hd (k H locs ls hlv hh res hr)
theorem Sm.scod (hC : Cok V C own cc nL n0 ret nm) {index i : Nat} (hi : i < 14) (hl : Cond.fieldLink own index "java/lang/String" "coder" "B" ∈ TW) (hd : decode cc pc = .ok (.getfield index, 3)) (k : Sm V C nL n0 nc QQ (pc + 3) lv (.int 0 :: st) M X) : Sm V C nL n0 nc QQ pc lv (.ref (V.2.2.2.1 i) :: st) M X := by
  intro H locs ls hlv hh res hr
  have a1 := hC.1
  have a2 := hC.2.1
  have a3 := hC.2.2.2.1
  have hts := hC.2.2.2.2.1
  have hz := hC.2.2.2.2.2.1.2.2.2.2.1.1 i hi
  exact vk_getf a1 a2 hz.2.1 hh.2.2 a3 (hts _ hl) (fun _ h => h) hd (k H locs ls hlv hh res hr)
theorem Sm.talen (hC : Cok V C own cc nL n0 ret nm) {i : Nat} (hi : i < 14) (hd : decode cc pc = .ok (.arraylength, 1)) (k : Sm V C nL n0 nc QQ (pc + 1) lv (.int (Int32.ofNat (slen.getD i 0)) :: st) M X) : Sm V C nL n0 nc QQ pc lv (.ref (V.2.2.2.2 i) :: st) M X := by
  intro H locs ls hlv hh res hr
  have a1 := hC.1
  have a2 := hC.2.1
  have hz := hC.2.2.2.2.2.1.2.2.2.2.1.1 i hi
  exact va_tlen a1 a2 hz.2.2.2 hh.2.2 rfl hd (k H locs ls hlv hh res hr)
theorem Sm.tald (hC : Cok V C own cc nL n0 ret nm) {i : Nat} {j : Int32} (hi : i < 14) (hj : inb j (slen.getD i 0) = true) (hd : decode cc pc = .ok (.baload, 1)) (k : Sm V C nL n0 nc QQ (pc + 1) lv (.int ((sbyt.getD i []).getD j.toNatClampNeg 0) :: st) M X) : Sm V C nL n0 nc QQ pc lv (.int j :: .ref (V.2.2.2.2 i) :: st) M X := by
  intro H locs ls hlv hh res hr
  have a1 := hC.1
  have a2 := hC.2.1
  have hz := (hC.2.2.2.2.2.1.2.2.2.2.1.1 i hi).2.2.2.kept hh.2.2.2.1
  obtain ⟨cell, h1, h2, h3, h4, h5, h6, h7⟩ := hz
  have hin := inb_spec hj
  have hlt : j.toNatClampNeg < slen.getD i 0 := Nat.not_le.mp fun q => hin (Or.inr q)
  exact W.bald (v := .int ((sbyt.getD i []).getD j.toNatClampNeg 0)) a1 a2 h1 h2 h3 (fun q => by
    rcases q with q | q
    · exact hin (Or.inl q)
    · omega) (h6 _ hlt) rfl rfl hd (k H locs ls hlv hh res hr)
theorem Sm.xret {ty : FieldType} {mc ms : Nat} (hC : Cok V C own cc nL n0 (some ty) nm) {x : Int32} (hn : narrow ty (.int x) = .int x) (hd : decode cc pc = .ok (.ireturn, 1)) (hm : nc = n0 + mc) (hs : Sz nc - Sz n0 = ms) : Sm V C nL n0 nc (fun res : Int32 × Mm => MQ (cB C) (QC V (some (.int res.1)) res.2 mc) (cA C) (cS C) mc ms (Af V)) pc lv [.int x] M (some (x, M)) := by
  intro H locs ls hl hh res hr
  have a1 := hC.1
  have a2 := hC.2.1
  have a3 := hC.2.2.2.2.2.2.2.1
  have a4 := hC.2.2.2.2.2.2.2.2.1
  cases hr
  rw [hs, show nc - n0 = mc by omega]
  exact W.zret a1 a2 a3 hn (fun t ht hW => QCof hC hh hm ht hW) hh.2.2.2.2 hd a4
variable {ev : β → Option Value} {index maxL n i : Nat} {Y : Option (β × Mm)} {K : β → Mm → Option α} {rm R9 : Room} {y : MethodName} {bytes : ByteArray} {ret9 : Option FieldType} {As st0 : List Value}
theorem Sm.callT (hi : i < 14) (hC : Cok V C own cc nL n0 ret nm) (hR : cR C = R9) (hw : CW y bytes maxL ret9 n) (hy : y.cls = "java/lang/String") (hl : Cond.methodLink own index y ∈ TW) (hin : Cond.instanceMethod y ∈ TW) (hsel : Cond.selects y.cls y y ∈ TW)
    (hM : ∀ r0 M1, Y = some (r0, M1) → Met (cL C) y (Cond.code y bytes maxL ret9 :: TW) rm (va_Pc (.ref (V.2.2.2.1 i) :: As) (Wd V M)) (QC V (ev r0) M1 0) 0 0 (Af V)) (hst : st0 = As.reverse ++ .ref (V.2.2.2.1 i) :: st) (hn : As.length = n) (hrw : RW rm R9 maxL 0 0 n0 nc) (hcat : 2 * st.length ≤ 8) (hd : decode cc pc = .ok (.invokevirtual index, 3))
    (kk : ∀ r0 M1, Sm V C nL n0 nc QQ (pc + 3) lv ((ev r0).toList ++ st) M1 (K r0 M1)) : Sm V C nL n0 nc QQ pc lv st0 M (Y.bind (fun p => K p.1 p.2)) := by
  obtain ⟨h1, h2, h3, h4, h5, h6, h7, h8⟩ := hrw
  have hts := hC.2.2.2.2.1
  have a1 := hC.1
  have a2 := hC.2.1
  have a3 := hC.2.2.1
  have a4 := hC.2.2.2.1
  refine Sm.behind (ev := ev) (mc := 0) (ms := 0) (st0 := st0) (st := st) (free := Af V) hC rfl h7 h8 (fun H locs ls r0 M1 hlv hh hY => ⟨(.ref (V.2.2.2.1 i) :: As).toArray, ?_⟩) kk
  have hrec := vk_recv hC.2.2.2.2.2.1.2.2.2.2.1 hi hh.2.2
  rw [← hy] at hrec
  have hM9 := hM r0 M1 hY
  subst hR
  subst hst
  refine va_runV (b := V.2.2.2.1 i) (As := As) (rest := st) (n := n) (maxL := maxL) ⟨a1, a2, a3, a4, hts⟩ hM9 ⟨⟨h1, h2, h3, h4, tw_pay hts hw.2.1, List.mem_cons_self, hts _ hw.2.1, hts _ hw.1, ⟨hw.2.2.1, hw.2.2.2.1⟩, fun sig h => ?_, hts _ hl⟩, hts _ hin, hts _ hsel⟩ ⟨blind_of, hrec, fun U hU hW => hh.pre hC U hU hW⟩ rfl hn (hlv.1) rfl (lv_room (Nat.le_trans (cat_le st) hcat)) hd ⟨h5, h6⟩
  have h9 := hw.2.2.2.2
  rw [h] at h9
  exact (Option.some.inj h9).symm
end RULES6
def rm_1 : Room := { frames := 1, cells := 0, slots := 0, locals := 30 }
def rm_2 : Room := { frames := 2, cells := 0, slots := 0, locals := 60 }
def rm_3 : Room := { frames := 3, cells := 0, slots := 0, locals := 90 }
def rm_4 : Room := { frames := 4, cells := 0, slots := 0, locals := 120 }
section TEXTS
variable {l : Launch} {V : Ev} {M : Mm} {i : Nat}
theorem ok_scod (hi : i < 14) : Met l y_scod (Cond.code y_scod b_scod 1 (some .byte) :: TW) rm_1 (va_Pc [.ref (V.2.2.2.1 i)] (Wd V M)) (QC V (some (.int 0)) M 0) 0 0 (Af V) := by
  refine met_of (X := some (0, M)) (fun x : Int32 => some (.int x)) (lv0 := [(0, .ref (V.2.2.2.1 i))]) (by decide) (by simp [lg_sl, cat_f]) (by simp [lv_args]) (fun C hl hR hC => ?_) rfl
  subst hl
  generalize mN M = n0 at hC ⊢
  refine Sm.compact (index := 38) hC (tw_i 509 (by decide +kernel)) (by decide +kernel) ?_
  refine Sm.if_eqF (off := 10) (tgt := 13) hC (by decide +kernel) (by decide) (by decide) ?_
  refine Sm.aloadS_n (n := 0) (i := 0) hC (by decide +kernel) rfl 0 rfl ?_
  refine Sm.scod (index := 15) hC hi (tw_i 1302 (by decide +kernel)) (by decide +kernel) ?_
  refine Sm.goto (off := 4) (tgt := 14) hC (by decide +kernel) (by decide) ?_
  exact Sm.xret hC rfl (by decide +kernel) rfl (Nat.sub_self _)
theorem ok_slat (hi : i < 14) : Met l y_slat (Cond.code y_slat b_slat 1 (some .boolean) :: TW) rm_1 (va_Pc [.ref (V.2.2.2.1 i)] (Wd V M)) (QC V (some (.int 1)) M 0) 0 0 (Af V) := by
  refine met_of (X := some (1, M)) (fun x : Int32 => some (.int x)) (lv0 := [(0, .ref (V.2.2.2.1 i))]) (by decide) (by simp [lg_sl, cat_f]) (by simp [lv_args]) (fun C hl hR hC => ?_) rfl
  subst hl
  generalize mN M = n0 at hC ⊢
  refine Sm.compact (index := 38) hC (tw_i 509 (by decide +kernel)) (by decide +kernel) ?_
  refine Sm.if_eqF (off := 14) (tgt := 17) hC (by decide +kernel) (by decide) (by decide) ?_
  refine Sm.aloadS_n (n := 0) (i := 0) hC (by decide +kernel) rfl 0 rfl ?_
  refine Sm.scod (index := 15) hC hi (tw_i 1302 (by decide +kernel)) (by decide +kernel) ?_
  refine Sm.if_neF (off := 7) (tgt := 17) hC (by decide +kernel) (by decide) rfl ?_
  refine Sm.iconst (n := 1) (v := 1) hC (by decide +kernel) (by decide) ?_
  refine Sm.goto (off := 4) (tgt := 18) hC (by decide +kernel) (by decide) ?_
  exact Sm.xret hC rfl (by decide +kernel) rfl (Nat.sub_self _)
theorem sl_facts : ∀ i, i < 14 → Int32.ofNat (slen.getD i 0) >>> ((0 : Int32) &&& 31) = Int32.ofNat (slen.getD i 0) := by decide +kernel
theorem ok_slen (hi : i < 14) : Met l y_slen (Cond.code y_slen b_slen 1 (some .int) :: TW) rm_2 (va_Pc [.ref (V.2.2.2.1 i)] (Wd V M)) (QC V (some (.int (Int32.ofNat (slen.getD i 0)))) M 0) 0 0 (Af V) := by
  have h : Met l y_slen (Cond.code y_slen b_slen 1 (some .int) :: TW) rm_2 (va_Pc [.ref (V.2.2.2.1 i)] (Wd V M)) (QC V (some (.int (Int32.ofNat (slen.getD i 0) >>> ((0 : Int32) &&& 31)))) M 0) 0 0 (Af V) := by
    refine met_of (X := (some ((0 : Int32), M)).bind (fun p => some (Int32.ofNat (slen.getD i 0) >>> (p.1 &&& 31), p.2))) (fun x : Int32 => some (.int x)) (lv0 := [(0, .ref (V.2.2.2.1 i))]) (by decide) (by simp [lg_sl, cat_f]) (by simp [lv_args]) (fun C hl hR hC => ?_) rfl
    subst hl
    generalize mN M = n0 at hC ⊢
    refine Sm.aloadS_n (n := 0) (i := 0) hC (by decide +kernel) rfl 0 rfl ?_
    refine Sm.sval (index := 9) hC hi (tw_i 1301 (by decide +kernel)) (by decide +kernel) ?_
    refine Sm.talen hC hi (by decide +kernel) ?_
    refine Sm.aloadS_n (n := 0) (i := 0) hC (by decide +kernel) rfl 0 rfl ?_
    refine Sm.callT (β := Int32) (ev := fun x : Int32 => some (.int x)) (K := fun r0 M1 => some (Int32.ofNat (slen.getD i 0) >>> (r0 &&& 31), M1)) (index := 335) (As := []) (st := [.int (Int32.ofNat (slen.getD i 0))]) hi hC hR cw_scod rfl (tw_i 505 (by decide +kernel)) (tw_i 506 (by decide +kernel)) (tw_i 507 (by decide +kernel)) (fun r0 M1 h => by cases h; exact ok_scod hi) rfl rfl (RW.of ⟨rfl, rfl, by decide, by decide⟩) (by simp) (by decide +kernel) (fun r0 M1 => ?_)
    refine Sm.ishr hC (by decide +kernel) ?_
    exact Sm.iret hC (by decide +kernel) rfl (Nat.sub_self _)
  rw [sl_facts i hi] at h
  exact h
theorem ok_pchk {q : Option Nat} {x y : Int32} (h0 : ¬ x < 0) (h1 : x < y) : Met l y_pchk (Cond.code y_pchk b_pchk 3 (some .int) :: TW) rm_1 (va_Pc [.int x, .int y, va_rf q] (Wd V M)) (QC V (some (.int x)) M 0) 0 0 (Af V) := by
  refine met_of (X := some (x, M)) (fun x : Int32 => some (.int x)) (lv0 := [(0, .int x), (1, .int y), (2, va_rf q)]) (by decide) (by cases q <;> simp [lg_sl, cat_f, cat_i, va_rf, Value.category]) (by cases q <;> simp [lv_args, cat_i]) (fun C hl hR hC => ?_) rfl
  subst hl
  generalize mN M = n0 at hC ⊢
  refine Sm.iload_n (n := 0) (i := 0) hC (by decide +kernel) rfl 0 rfl ?_
  refine Sm.if_ltF (off := 8) (tgt := 9) hC (by decide +kernel) (by decide) h0 ?_
  refine Sm.iload_n (n := 0) (i := 0) hC (by decide +kernel) rfl 0 rfl ?_
  refine Sm.iload_n (n := 1) (i := 1) hC (by decide +kernel) rfl 1 rfl ?_
  refine Sm.icmp_ltT (off := 10) (tgt := 16) hC (by decide +kernel) (by decide) h1 ?_
  refine Sm.iload_n (n := 0) (i := 0) hC (by decide +kernel) rfl 0 rfl ?_
  exact Sm.iret hC (by decide +kernel) rfl (Nat.sub_self _)
theorem ok_schk {x y : Int32} (h0 : ¬ x < 0) (h1 : x < y) : Met l y_schk (Cond.code y_schk b_schk 2 none :: TW) rm_2 (va_Pc [.int x, .int y] (Wd V M)) (QC V none M 0) 0 0 (Af V) := by
  refine met_of (r := ()) (X := cl true (some (x, M)) (fun _ M1 => some ((), M1))) (fun _ : Unit => none) (lv0 := [(0, .int x), (1, .int y)]) (by decide) (by simp [lg_sl, cat_i]) (by simp [lv_args, cat_i]) (fun C hl hR hC => ?_) rfl
  subst hl
  generalize mN M = n0 at hC ⊢
  refine Sm.iload_n (n := 0) (i := 0) hC (by decide +kernel) rfl 0 rfl ?_
  refine Sm.iload_n (n := 1) (i := 1) hC (by decide +kernel) rfl 1 rfl ?_
  refine Sm.formatter (index := 1053) hC (tw_i 526 (by decide +kernel)) (by decide +kernel) (fun q => ?_)
  refine Sm.callSi (index := 1059) (As := [.int x, .int y, va_rf q]) (st := []) hC hR cw_pchk (tw_i 528 (by decide +kernel)) (tw_i 529 (by decide +kernel)) (fun r0 M1 h => by cases h; exact ok_pchk h0 h1) rfl rfl (RW.of ⟨rfl, rfl, by decide, by decide⟩) (by simp) (by decide +kernel) (fun r0 M1 => ?_)
  refine Sm.popAny hC (by decide +kernel) ?_
  exact Sm.vret hC (by decide +kernel) rfl (Nat.sub_self _)
theorem sc_facts : ∀ i, i < 14 → ∀ k, k < slen.getD i 0 → (((((sbyt.getD i []).getD k 0) &&& 255).toUInt32 % 65536).toInt32 = (sbyt.getD i []).getD k 0 ∧ narrow .char (.int ((sbyt.getD i []).getD k 0)) = .int ((sbyt.getD i []).getD k 0)) := by decide +kernel
theorem sl_small : ∀ i, i < 14 → slen.getD i 0 < 100 := by decide +kernel
theorem ok_lcha {k : Int32} (hi : i < 14) (hk : inb k (slen.getD i 0) = true) : Met l y_lcha (Cond.code y_lcha b_lcha 2 (some .char) :: TW) rm_3 (va_Pc [.ref (V.2.2.2.2 i), .int k] (Wd V M)) (QC V (some (.int ((sbyt.getD i []).getD k.toNatClampNeg 0))) M 0) 0 0 (Af V) := by
  have hin := inb_spec hk
  have h0 : ¬ k < 0 := fun q => hin (Or.inl q)
  have hlt : k.toNatClampNeg < slen.getD i 0 := Nat.not_le.mp fun q => hin (Or.inr q)
  have hs := sl_small i hi
  have h1 : k < Int32.ofNat (slen.getD i 0) := by
    obtain ⟨j, hj, rfl⟩ := nI_of h0
    rw [nI_clamp hj] at hlt
    exact nI_lt hlt (by omega)
  obtain ⟨f1, f2⟩ := sc_facts i hi _ hlt
  refine met_of (X := cl true (some ((), M)) (fun _ M1 => some ((sbyt.getD i []).getD k.toNatClampNeg 0, M1))) (fun x : Int32 => some (.int x)) (lv0 := [(0, .ref (V.2.2.2.2 i)), (1, .int k)]) (by decide) (by simp [lg_sl, cat_f, cat_i]) (by simp [lv_args, cat_f]) (fun C hl hR hC => ?_) rfl
  subst hl
  generalize mN M = n0 at hC ⊢
  refine Sm.iload_n (n := 1) (i := 1) hC (by decide +kernel) rfl 1 rfl ?_
  refine Sm.aloadS_n (n := 0) (i := 0) hC (by decide +kernel) rfl 0 rfl ?_
  refine Sm.talen hC hi (by decide +kernel) ?_
  refine Sm.callS (ev := fun _ : Unit => none) (index := 9) (As := [.int k, .int (Int32.ofNat (slen.getD i 0))]) (st := []) hC hR cw_schk (tw_i 523 (by decide +kernel)) (tw_i 524 (by decide +kernel)) (fun r0 M1 h => by cases h; exact ok_schk h0 h1) rfl rfl (RW.of ⟨rfl, rfl, by decide, by decide⟩) (by simp) (by decide +kernel) (fun r0 M1 => ?_)
  refine Sm.aloadS_n (n := 0) (i := 0) hC (by decide +kernel) rfl 0 rfl ?_
  refine Sm.iload_n (n := 1) (i := 1) hC (by decide +kernel) rfl 1 rfl ?_
  refine Sm.tald hC hi hk (by decide +kernel) ?_
  refine Sm.sipush (n := 255) (v := 255) hC (by decide +kernel) (by decide) ?_
  refine Sm.iand hC (by decide +kernel) ?_
  refine Sm.i2c hC (by decide +kernel) f1 ?_
  exact Sm.xret hC f2 (by decide +kernel) rfl (Nat.sub_self _)
theorem ok_scha {k : Int32} (hi : i < 14) (hk : inb k (slen.getD i 0) = true) : Met l y_scha (Cond.code y_scha b_scha 2 (some .char) :: TW) rm_4 (va_Pc [.ref (V.2.2.2.1 i), .int k] (Wd V M)) (QC V (some (.int ((sbyt.getD i []).getD k.toNatClampNeg 0))) M 0) 0 0 (Af V) := by
  have hin := inb_spec hk
  have hlt : k.toNatClampNeg < slen.getD i 0 := Nat.not_le.mp fun q => hin (Or.inr q)
  obtain ⟨f1, f2⟩ := sc_facts i hi _ hlt
  refine met_of (X := (some ((1 : Int32), M)).bind (fun p => if p.1 = 0 then none else cl true (if p.1 = 1 then some ((sbyt.getD i []).getD k.toNatClampNeg 0, p.2) else none) (fun r1 M1 => if r1 = (sbyt.getD i []).getD k.toNatClampNeg 0 then some (r1, M1) else none))) (fun x : Int32 => some (.int x)) (lv0 := [(0, .ref (V.2.2.2.1 i)), (1, .int k)]) (by decide) (by simp [lg_sl, cat_f, cat_i]) (by simp [lv_args, cat_f]) (fun C hl hR hC => ?_) (by simp [cl])
  subst hl
  generalize mN M = n0 at hC ⊢
  refine Sm.aloadS_n (n := 0) (i := 0) hC (by decide +kernel) rfl 0 rfl ?_
  refine Sm.callT (β := Int32) (ev := fun x : Int32 => some (.int x)) (K := fun r0 M1 => if r0 = 0 then none else cl true (if r0 = 1 then some ((sbyt.getD i []).getD k.toNatClampNeg 0, M1) else none) (fun r1 M1 => if r1 = (sbyt.getD i []).getD k.toNatClampNeg 0 then some (r1, M1) else none)) (index := 492) (As := []) (st := []) hi hC hR cw_slat rfl (tw_i 516 (by decide +kernel)) (tw_i 517 (by decide +kernel)) (tw_i 518 (by decide +kernel)) (fun r0 M1 h => by cases h; exact ok_slat hi) rfl rfl (RW.of ⟨rfl, rfl, by decide, by decide⟩) (by simp) (by decide +kernel) (fun r0 M1 => ?_)
  refine Sm.if_eq (off := 12) (tgt := 16) hC (by decide +kernel) (by decide) Sm.none_ ?_
  refine Sm.aloadS_n (n := 0) (i := 0) hC (by decide +kernel) rfl 0 rfl ?_
  refine Sm.sval (index := 9) hC hi (tw_i 1301 (by decide +kernel)) (by decide +kernel) ?_
  refine Sm.iload_n (n := 1) (i := 1) hC (by decide +kernel) rfl 1 rfl ?_
  refine Sm.callSi (index := 495) (As := [.ref (V.2.2.2.2 i), .int k]) (st := []) hC hR cw_lcha (tw_i 520 (by decide +kernel)) (tw_i 521 (by decide +kernel)) (fun r1 M2 h => by
    split at h
    · cases h; exact ok_lcha hi hk
    · cases h) rfl rfl (RW.of ⟨rfl, rfl, by decide, by decide⟩) (by simp) (by decide +kernel) (fun r1 M2 => ?_)
  refine Sm.if_ (fun h => ?_) (fun _ => Sm.none_)
  exact Sm.xret hC (by rw [h]; exact f2) (by decide +kernel) rfl (Nat.sub_self _)
end TEXTS
section RULES7
variable {α : Type} {V : Ev} {C : Cx} {own nm : String} {cc : ByteArray} {nL n0 : Nat} {ret : Option FieldType} {QQ : α → State → Prop} {pc : Nat} {lv : List (Nat × Value)} {st : List Value} {M : Mm} {R9 : Room} {index i : Nat} {f : Int32 → Option α}
theorem Sm.strL (hC : Cok V C own cc nL n0 ret nm) (hR : cR C = R9) (hl : Cond.methodLink own index y_slen ∈ TW) (hrm : 3 ≤ R9.frames ∧ 120 ≤ R9.locals) (hcat : 2 * st.length ≤ 8) (hd : decode cc pc = .ok (.invokevirtual index, 3)) (kk : ∀ v, Sm V C nL n0 n0 QQ (pc + 3) lv (.int v :: st) M (f v)) : Sm V C nL n0 n0 QQ pc lv (.ref (V.2.2.2.1 i) :: st) M (tL i f) := by
  unfold tL
  refine Sm.if_ (fun hi => ?_) (fun _ => Sm.none_)
  have h := Sm.callT (β := Unit) (rm := rm_2) (ev := fun _ : Unit => some (.int (Int32.ofNat (slen.getD i 0)))) (Y := some ((), M)) (K := fun _ M1 => @ite _ (M1 = M) (Classical.propDecidable _) (f (Int32.ofNat (slen.getD i 0))) none) (As := []) (st := st) (pc := pc) (lv := lv) (QQ := QQ) hi hC hR cw_slen rfl hl (tw_i 502 (by decide +kernel)) (tw_i 503 (by decide +kernel)) (fun r0 M1 h => by cases h; exact ok_slen hi) rfl rfl (RW.of ⟨rfl, rfl, by have := hrm.1; show 2 + 1 ≤ _; omega, by have := hrm.2; show 8 + (1 + 11) + 60 ≤ _; omega⟩) hcat hd (fun r0 M1 => by
    by_cases h : M1 = M
    · rw [if_pos h]
      subst h
      exact kk _
    · rw [if_neg h]
      exact Sm.none_)
  simpa using h
theorem Sm.strC {k : Int32} (hC : Cok V C own cc nL n0 ret nm) (hR : cR C = R9) (hl : Cond.methodLink own index y_scha ∈ TW) (hrm : 6 ≤ R9.frames ∧ 180 ≤ R9.locals) (hcat : 2 * st.length ≤ 8) (hd : decode cc pc = .ok (.invokevirtual index, 3)) (kk : ∀ v, Sm V C nL n0 n0 QQ (pc + 3) lv (.int v :: st) M (f v)) : Sm V C nL n0 n0 QQ pc lv (.int k :: .ref (V.2.2.2.1 i) :: st) M (tC i k f) := by
  unfold tC
  refine Sm.if_ (fun hi => ?_) (fun _ => Sm.none_)
  refine Sm.if_ (fun hk => ?_) (fun _ => Sm.none_)
  have h := Sm.callT (β := Unit) (rm := rm_4) (ev := fun _ : Unit => some (.int ((sbyt.getD i []).getD k.toNatClampNeg 0))) (Y := some ((), M)) (K := fun _ M1 => @ite _ (M1 = M) (Classical.propDecidable _) (f ((sbyt.getD i []).getD k.toNatClampNeg 0)) none) (As := [.int k]) (st := st) (pc := pc) (lv := lv) (QQ := QQ) hi hC hR cw_scha rfl hl (tw_i 513 (by decide +kernel)) (tw_i 514 (by decide +kernel)) (fun r0 M1 h => by cases h; exact ok_scha hi hk) rfl rfl (RW.of ⟨rfl, rfl, by have := hrm.1; show 4 + 1 ≤ _; omega, by have := hrm.2; show 8 + (2 + 11) + 120 ≤ _; omega⟩) hcat hd (fun r0 M1 => by
    by_cases h : M1 = M
    · rw [if_pos h]
      subst h
      exact kk _
    · rw [if_neg h]
      exact Sm.none_)
  simpa using h
end RULES7
