/-! NewsWireModel.one(I)V -/
theorem fl_m11_166 : FL "NewsWireModel" 166 11 29 0 false .boolean := ⟨_, _, _, _, rfl, in_c11, ty_c11, nm_c11, by decide, rfl, tw_i 894 (by decide +kernel), rfl, rfl, rfl, rfl⟩
abbrev b_m11_one : ByteArray := prog_13_method_17_code
def y_m11_one : MethodName := ⟨"NewsWireModel", "one", "(I)V"⟩
def rm_m11_one : Room := { frames := 2, cells := 0, slots := 0, locals := 80 }
theorem cw_m11_one : CW y_m11_one b_m11_one 2 none 1 := ⟨tw_i 66 (by decide +kernel), tw_i 1113 (by decide +kernel), by decide, by decide, by decide +kernel⟩
theorem d_m11_one_0 : decode b_m11_one 0 = .ok (.aload_n 0, 1) := by decide +kernel
theorem d_m11_one_1 : decode b_m11_one 1 = .ok (.getfield 166, 3) := by decide +kernel
theorem d_m11_one_4 : decode b_m11_one 4 = .ok (.ifCond .eq 4, 3) := by decide +kernel
theorem d_m11_one_7 : decode b_m11_one 7 = .ok (.return_, 1) := by decide +kernel
theorem d_m11_one_8 : decode b_m11_one 8 = .ok (.aload_n 0, 1) := by decide +kernel
theorem d_m11_one_9 : decode b_m11_one 9 = .ok (.invokevirtual 170, 3) := by decide +kernel
theorem d_m11_one_12 : decode b_m11_one 12 = .ok (.iload_n 1, 1) := by decide +kernel
theorem d_m11_one_13 : decode b_m11_one 13 = .ok (.if_icmp .ne 16, 3) := by decide +kernel
theorem d_m11_one_16 : decode b_m11_one 16 = .ok (.aload_n 0, 1) := by decide +kernel
theorem d_m11_one_17 : decode b_m11_one 17 = .ok (.dup, 1) := by decide +kernel
theorem d_m11_one_18 : decode b_m11_one 18 = .ok (.getfield 163, 3) := by decide +kernel
theorem d_m11_one_21 : decode b_m11_one 21 = .ok (.iconst 1, 1) := by decide +kernel
theorem d_m11_one_22 : decode b_m11_one 22 = .ok (.iadd, 1) := by decide +kernel
theorem d_m11_one_23 : decode b_m11_one 23 = .ok (.putfield 163, 3) := by decide +kernel
theorem d_m11_one_26 : decode b_m11_one 26 = .ok (.goto 8, 3) := by decide +kernel
theorem d_m11_one_29 : decode b_m11_one 29 = .ok (.aload_n 0, 1) := by decide +kernel
theorem d_m11_one_30 : decode b_m11_one 30 = .ok (.iconst 1, 1) := by decide +kernel
theorem d_m11_one_31 : decode b_m11_one 31 = .ok (.putfield 166, 3) := by decide +kernel
theorem d_m11_one_34 : decode b_m11_one 34 = .ok (.return_, 1) := by decide +kernel
def s_m11_one_34   (M : Mm) : Option (Unit × Mm) := some ((), M)
def s_m11_one (r0 : Nat) (a1 : Int32) (M : Mm) : Option (Unit × Mm) := gI M r0 21 29 (fun v1 => (if v1 = 0 then cl (has M r0 21) (s_m11_here r0 M) (fun v2 M3 => (if ¬ v2 = a1 then pZ M3 r0 21 29 (1 : Int32) (fun M4 => s_m11_one_34 M4) else gI M3 r0 21 28 (fun v5 => pI M3 r0 21 28 (v5 + (1 : Int32)) (fun M6 => s_m11_one_34 M6)))) else some ((), M)))
set_option maxRecDepth 100000 in
set_option maxHeartbeats 4000000 in
theorem w_m11_one_34 {V : Ev} {C : Cx} {n0 : Nat} (hC : Cok V C y_m11_one.cls b_m11_one 2 n0 none y_m11_one.name) (hR : cR C = rm_m11_one)  : ∀  (M : Mm), Sm V C 2 n0 n0 (qV V C) 34 [] [] M (s_m11_one_34 M) := by
  intro M
  unfold s_m11_one_34
  exact Sm.vret hC d_m11_one_34 rfl (Nat.sub_self _)
set_option maxRecDepth 100000 in
set_option maxHeartbeats 4000000 in
theorem ok_m11_one {l : Launch} {V : Ev} {M M' : Mm} {r : Unit} {r0 : Nat} {a1 : Int32} (h : s_m11_one r0 a1 M = some (r, M')) : Met l y_m11_one (Cond.code y_m11_one b_m11_one 2 none :: TW) rm_m11_one (va_Pc [rv V.1 r0, .int a1] (Wd V M)) (QC V none M' 0) 0 0 (Af V) := by
  refine met_of (fun _ : Unit => none) (lv0 := [(0, rv V.1 r0), (1, .int a1)]) (by decide) (by simp [lg_sl, cat_rv, cat_i, cat_l, cat_f]) (by simp [lv_args, cat_rv, cat_i, cat_l, cat_f]) (fun C hl hR hC => ?_) h
  subst hl
  generalize mN M = n0 at hC ⊢
  unfold s_m11_one
  refine Sm.aload_n hC d_m11_one_0 rfl 0 rfl ?_
  refine Sm.getI hC fl_m11_166 rfl d_m11_one_1 (fun v1 => ?_)
  refine Sm.if_eq (tgt := 8) hC d_m11_one_4 (by decide) ?_ ?_
  · refine Sm.aload_n hC d_m11_one_8 rfl 0 rfl ?_
    refine Sm.callVi 11 (As := []) (st := []) hC hR cw_m11_here (tw_i 1097 (by decide +kernel)) (tw_i 1099 (by decide +kernel)) (tw_i 28 (by decide +kernel)) ⟨_, rfl, rfl⟩ (fun r9 M9 h9 => ok_m11_here h9) rfl rfl (RW.of ⟨rfl, rfl, by decide, by decide⟩) (by simp) d_m11_one_9 (fun v2 M3 => ?_)
    refine Sm.iload_n hC d_m11_one_12 rfl 1 rfl ?_
    refine Sm.icmp_ne (tgt := 29) hC d_m11_one_13 (by decide) ?_ ?_
    · refine Sm.aload_n hC d_m11_one_29 rfl 0 rfl ?_
      refine Sm.iconst (v := 1) hC d_m11_one_30 (by decide) ?_
      refine Sm.putZ hC fl_m11_166 rfl d_m11_one_31 (fun M4 => ?_)
      refine Sm.sub [] rfl ?_
      exact w_m11_one_34 hC hR M4
    · refine Sm.aload_n hC d_m11_one_16 rfl 0 rfl ?_
      refine Sm.dup hC d_m11_one_17 (cat_rv _ _) ?_
      refine Sm.getI hC fl_m11_163 rfl d_m11_one_18 (fun v5 => ?_)
      refine Sm.iconst (v := 1) hC d_m11_one_21 (by decide) ?_
      refine Sm.iadd hC d_m11_one_22 ?_
      refine Sm.putI hC fl_m11_163 rfl d_m11_one_23 (fun M6 => ?_)
      refine Sm.goto (tgt := 34) hC d_m11_one_26 (by decide) ?_
      refine Sm.sub [] rfl ?_
      exact w_m11_one_34 hC hR M6
  · exact Sm.vret hC d_m11_one_7 rfl (Nat.sub_self _)
/-! NewsWireModel.letters(J)V -/
abbrev b_m11_letters : ByteArray := prog_13_method_18_code
def y_m11_letters : MethodName := ⟨"NewsWireModel", "letters", "(J)V"⟩
def rm_m11_letters : Room := { frames := 3, cells := 0, slots := 0, locals := 101 }
theorem cw_m11_letters : CW y_m11_letters b_m11_letters 5 none 1 := ⟨tw_i 66 (by decide +kernel), tw_i 1108 (by decide +kernel), by decide, by decide, by decide +kernel⟩
theorem d_m11_letters_0 : decode b_m11_letters 0 = .ok (.bipush 30, 2) := by decide +kernel
theorem d_m11_letters_2 : decode b_m11_letters 2 = .ok (.istore_n 3, 1) := by decide +kernel
theorem d_m11_letters_3 : decode b_m11_letters 3 = .ok (.iload_n 3, 1) := by decide +kernel
theorem d_m11_letters_4 : decode b_m11_letters 4 = .ok (.ifCond .lt 47, 3) := by decide +kernel
theorem d_m11_letters_7 : decode b_m11_letters 7 = .ok (.lload_n 1, 1) := by decide +kernel
theorem d_m11_letters_8 : decode b_m11_letters 8 = .ok (.iload_n 3, 1) := by decide +kernel
theorem d_m11_letters_9 : decode b_m11_letters 9 = .ok (.lshr, 1) := by decide +kernel
theorem d_m11_letters_10 : decode b_m11_letters 10 = .ok (.ldc2_w 174, 3) := by decide +kernel
theorem d_m11_letters_13 : decode b_m11_letters 13 = .ok (.land, 1) := by decide +kernel
theorem d_m11_letters_14 : decode b_m11_letters 14 = .ok (.l2i, 1) := by decide +kernel
theorem d_m11_letters_15 : decode b_m11_letters 15 = .ok (.istore 4, 2) := by decide +kernel
theorem d_m11_letters_17 : decode b_m11_letters 17 = .ok (.iload 4, 2) := by decide +kernel
theorem d_m11_letters_19 : decode b_m11_letters 19 = .ok (.ifCond .le 26, 3) := by decide +kernel
theorem d_m11_letters_22 : decode b_m11_letters 22 = .ok (.aload_n 0, 1) := by decide +kernel
theorem d_m11_letters_23 : decode b_m11_letters 23 = .ok (.iload 4, 2) := by decide +kernel
theorem d_m11_letters_25 : decode b_m11_letters 25 = .ok (.bipush 27, 2) := by decide +kernel
theorem d_m11_letters_27 : decode b_m11_letters 27 = .ok (.if_icmp .ne 8, 3) := by decide +kernel
theorem d_m11_letters_30 : decode b_m11_letters 30 = .ok (.bipush 32, 2) := by decide +kernel
theorem d_m11_letters_32 : decode b_m11_letters 32 = .ok (.goto 10, 3) := by decide +kernel
theorem d_m11_letters_35 : decode b_m11_letters 35 = .ok (.bipush 97, 2) := by decide +kernel
theorem d_m11_letters_37 : decode b_m11_letters 37 = .ok (.iload 4, 2) := by decide +kernel
theorem d_m11_letters_39 : decode b_m11_letters 39 = .ok (.iadd, 1) := by decide +kernel
theorem d_m11_letters_40 : decode b_m11_letters 40 = .ok (.iconst 1, 1) := by decide +kernel
theorem d_m11_letters_41 : decode b_m11_letters 41 = .ok (.isub, 1) := by decide +kernel
theorem d_m11_letters_42 : decode b_m11_letters 42 = .ok (.invokevirtual 176, 3) := by decide +kernel
theorem d_m11_letters_45 : decode b_m11_letters 45 = .ok (.iinc 3 (-5), 3) := by decide +kernel
theorem d_m11_letters_48 : decode b_m11_letters 48 = .ok (.goto (-45), 3) := by decide +kernel
theorem d_m11_letters_51 : decode b_m11_letters 51 = .ok (.return_, 1) := by decide +kernel
def s_m11_letters_45 (k3 : Nat → Int64 → Int32 → Mm → Option (Unit × Mm)) (r0 : Nat) (l1 : Int64) (x3 : Int32) (M : Mm) : Option (Unit × Mm) := k3 r0 l1 (x3 + (-5)) M
def s_m11_letters_42 (k3 : Nat → Int64 → Int32 → Mm → Option (Unit × Mm)) (r0 : Nat) (l1 : Int64) (x3 : Int32) (t0 : Nat) (t1 : Int32) (M : Mm) : Option (Unit × Mm) := cl (has M t0 21) (s_m11_one t0 t1 M) (fun _ M1 => s_m11_letters_45 k3 r0 l1 x3 M1)
def s_m11_letters_3  : Nat → Nat → Int64 → Int32 → Mm → Option (Unit × Mm)
  | 0, _, _, _, _ => none
  | n + 1, r0, l1, x3, M => (if x3 < 0 then some ((), M) else (if (((l1 >>> (x3.toInt64 &&& 63)) &&& (31 : Int64)).toInt32) ≤ 0 then s_m11_letters_45 (s_m11_letters_3 n) r0 l1 x3 M else (if ¬ (((l1 >>> (x3.toInt64 &&& 63)) &&& (31 : Int64)).toInt32) = (27 : Int32) then s_m11_letters_42 (s_m11_letters_3 n) r0 l1 x3 r0 (((97 : Int32) + (((l1 >>> (x3.toInt64 &&& 63)) &&& (31 : Int64)).toInt32)) - (1 : Int32)) M else s_m11_letters_42 (s_m11_letters_3 n) r0 l1 x3 r0 (32 : Int32) M)))
def s_m11_letters (r0 : Nat) (b1 : Int64) (M : Mm) : Option (Unit × Mm) := s_m11_letters_3 FU r0 b1 (30 : Int32) M
set_option maxRecDepth 100000 in
set_option maxHeartbeats 4000000 in
theorem w_m11_letters_45 {V : Ev} {C : Cx} {n0 : Nat} (hC : Cok V C y_m11_letters.cls b_m11_letters 5 n0 none y_m11_letters.name) (hR : cR C = rm_m11_letters) (k3 : Nat → Int64 → Int32 → Mm → Option (Unit × Mm)) (hk3 : ∀ (r0 : Nat) (l1 : Int64) (x3 : Int32) (M : Mm), Sm V C 5 n0 n0 (qV V C) 3 [(0, rv V.1 r0), (1, .long l1), (3, .int x3)] [] M (k3 r0 l1 x3 M)) : ∀ (r0 : Nat) (l1 : Int64) (x3 : Int32) (M : Mm), Sm V C 5 n0 n0 (qV V C) 45 [(0, rv V.1 r0), (1, .long l1), (3, .int x3)] [] M (s_m11_letters_45 k3 r0 l1 x3 M) := by
  intro r0 l1 x3 M
  unfold s_m11_letters_45
  refine Sm.iinc (v := x3 + (-5)) (lv' := [(3, .int (x3 + (-5))), (0, rv V.1 r0), (1, .long l1)]) hC d_m11_letters_45 2 rfl rfl (by decide) rfl ?_
  refine Sm.goto (tgt := 3) hC d_m11_letters_48 (by decide) ?_
  refine Sm.sub [1, 2, 0] rfl ?_
  exact hk3 r0 l1 (x3 + (-5)) M
set_option maxRecDepth 100000 in
set_option maxHeartbeats 4000000 in
theorem w_m11_letters_42 {V : Ev} {C : Cx} {n0 : Nat} (hC : Cok V C y_m11_letters.cls b_m11_letters 5 n0 none y_m11_letters.name) (hR : cR C = rm_m11_letters) (k3 : Nat → Int64 → Int32 → Mm → Option (Unit × Mm)) (hk3 : ∀ (r0 : Nat) (l1 : Int64) (x3 : Int32) (M : Mm), Sm V C 5 n0 n0 (qV V C) 3 [(0, rv V.1 r0), (1, .long l1), (3, .int x3)] [] M (k3 r0 l1 x3 M)) : ∀ (r0 : Nat) (l1 : Int64) (x3 : Int32) (t0 : Nat) (t1 : Int32) (M : Mm), Sm V C 5 n0 n0 (qV V C) 42 [(0, rv V.1 r0), (1, .long l1), (3, .int x3)] [.int t1, rv V.1 t0] M (s_m11_letters_42 k3 r0 l1 x3 t0 t1 M) := by
  intro r0 l1 x3 t0 t1 M
  unfold s_m11_letters_42
  refine Sm.callVv 11 (As := [.int t1]) (st := []) hC hR cw_m11_one (tw_i 1110 (by decide +kernel)) (tw_i 1112 (by decide +kernel)) (tw_i 30 (by decide +kernel)) ⟨_, rfl, rfl⟩ (fun r9 M9 h9 => ok_m11_one h9) rfl rfl (RW.of ⟨rfl, rfl, by decide, by decide⟩) (by simp) d_m11_letters_42 (fun _ M1 => ?_)
  exact w_m11_letters_45 hC hR k3 hk3 r0 l1 x3 M1
set_option maxRecDepth 100000 in
set_option maxHeartbeats 4000000 in
theorem w_m11_letters_3 {V : Ev} {C : Cx} {n0 : Nat} (hC : Cok V C y_m11_letters.cls b_m11_letters 5 n0 none y_m11_letters.name) (hR : cR C = rm_m11_letters)  : ∀ (n : Nat) (r0 : Nat) (l1 : Int64) (x3 : Int32) (M : Mm), Sm V C 5 n0 n0 (qV V C) 3 [(0, rv V.1 r0), (1, .long l1), (3, .int x3)] [] M (s_m11_letters_3 n r0 l1 x3 M) := by
  intro n
  induction n with
  | zero => exact fun r0 l1 x3 M => Sm.none_
  | succ n ih =>
    intro r0 l1 x3 M
    unfold s_m11_letters_3
    refine Sm.iload_n hC d_m11_letters_3 rfl 2 rfl ?_
    refine Sm.if_lt (tgt := 51) hC d_m11_letters_4 (by decide) ?_ ?_
    · exact Sm.vret hC d_m11_letters_51 rfl (Nat.sub_self _)
    · refine Sm.lload_n hC d_m11_letters_7 rfl 1 rfl ?_
      refine Sm.iload_n hC d_m11_letters_8 rfl 2 rfl ?_
      refine Sm.lshr hC d_m11_letters_9 ?_
      refine Sm.ldc2 (v := 31) hC d_m11_letters_10 (tw_i 1109 (by decide +kernel)) ?_
      refine Sm.land hC d_m11_letters_13 ?_
      refine Sm.l2i hC d_m11_letters_14 ?_
      refine Sm.istore (lv' := [(4, .int (((l1 >>> (x3.toInt64 &&& 63)) &&& (31 : Int64)).toInt32)), (0, rv V.1 r0), (1, .long l1), (3, .int x3)]) hC d_m11_letters_15 (by decide) rfl ?_
      refine Sm.iload hC d_m11_letters_17 0 rfl ?_
      refine Sm.if_le (tgt := 45) hC d_m11_letters_19 (by decide) ?_ ?_
      · refine Sm.sub [1, 2, 3] rfl ?_
        exact w_m11_letters_45 hC hR (s_m11_letters_3 n) ih r0 l1 x3 M
      · refine Sm.aload_n hC d_m11_letters_22 rfl 1 rfl ?_
        refine Sm.iload hC d_m11_letters_23 0 rfl ?_
        refine Sm.bipush (v := 27) hC d_m11_letters_25 (by decide) ?_
        refine Sm.icmp_ne (tgt := 35) hC d_m11_letters_27 (by decide) ?_ ?_
        · refine Sm.bipush (v := 97) hC d_m11_letters_35 (by decide) ?_
          refine Sm.iload hC d_m11_letters_37 0 rfl ?_
          refine Sm.iadd hC d_m11_letters_39 ?_
          refine Sm.iconst (v := 1) hC d_m11_letters_40 (by decide) ?_
          refine Sm.isub hC d_m11_letters_41 ?_
          refine Sm.sub [1, 2, 3] rfl ?_
          exact w_m11_letters_42 hC hR (s_m11_letters_3 n) ih r0 l1 x3 r0 (((97 : Int32) + (((l1 >>> (x3.toInt64 &&& 63)) &&& (31 : Int64)).toInt32)) - (1 : Int32)) M
        · refine Sm.bipush (v := 32) hC d_m11_letters_30 (by decide) ?_
          refine Sm.goto (tgt := 42) hC d_m11_letters_32 (by decide) ?_
          refine Sm.sub [1, 2, 3] rfl ?_
          exact w_m11_letters_42 hC hR (s_m11_letters_3 n) ih r0 l1 x3 r0 (32 : Int32) M
set_option maxRecDepth 100000 in
set_option maxHeartbeats 4000000 in
theorem ok_m11_letters {l : Launch} {V : Ev} {M M' : Mm} {r : Unit} {r0 : Nat} {b1 : Int64} (h : s_m11_letters r0 b1 M = some (r, M')) : Met l y_m11_letters (Cond.code y_m11_letters b_m11_letters 5 none :: TW) rm_m11_letters (va_Pc [rv V.1 r0, .long b1] (Wd V M)) (QC V none M' 0) 0 0 (Af V) := by
  refine met_of (fun _ : Unit => none) (lv0 := [(0, rv V.1 r0), (1, .long b1)]) (by decide) (by simp [lg_sl, cat_rv, cat_i, cat_l, cat_f]) (by simp [lv_args, cat_rv, cat_i, cat_l, cat_f]) (fun C hl hR hC => ?_) h
  subst hl
  generalize mN M = n0 at hC ⊢
  unfold s_m11_letters
  refine Sm.bipush (v := 30) hC d_m11_letters_0 (by decide) ?_
  refine Sm.istore_n (lv' := [(3, .int (30 : Int32)), (0, rv V.1 r0), (1, .long b1)]) hC d_m11_letters_2 rfl (by decide) rfl ?_
  refine Sm.sub [1, 2, 0] rfl ?_
  exact w_m11_letters_3 hC hR FU r0 b1 (30 : Int32) M
/-! NewsWireModel.named(IIIIII)J -/
abbrev b_m11_named : ByteArray := prog_13_method_19_code
def y_m11_named : MethodName := ⟨"NewsWireModel", "named", "(IIIIII)J"⟩
def rm_m11_named : Room := { frames := 1, cells := 0, slots := 0, locals := 60 }
theorem cw_m11_named : CW y_m11_named b_m11_named 6 (some .long) 6 := ⟨tw_i 66 (by decide +kernel), tw_i 1103 (by decide +kernel), by decide, by decide, by decide +kernel⟩
theorem d_m11_named_0 : decode b_m11_named 0 = .ok (.ldc2_w 180, 3) := by decide +kernel
theorem d_m11_named_3 : decode b_m11_named 3 = .ok (.iload_n 0, 1) := by decide +kernel
theorem d_m11_named_4 : decode b_m11_named 4 = .ok (.i2l, 1) := by decide +kernel
theorem d_m11_named_5 : decode b_m11_named 5 = .ok (.lmul, 1) := by decide +kernel
theorem d_m11_named_6 : decode b_m11_named 6 = .ok (.iload_n 1, 1) := by decide +kernel
theorem d_m11_named_7 : decode b_m11_named 7 = .ok (.i2l, 1) := by decide +kernel
theorem d_m11_named_8 : decode b_m11_named 8 = .ok (.ladd, 1) := by decide +kernel
theorem d_m11_named_9 : decode b_m11_named 9 = .ok (.ldc2_w 180, 3) := by decide +kernel
theorem d_m11_named_12 : decode b_m11_named 12 = .ok (.lmul, 1) := by decide +kernel
theorem d_m11_named_13 : decode b_m11_named 13 = .ok (.iload_n 2, 1) := by decide +kernel
theorem d_m11_named_14 : decode b_m11_named 14 = .ok (.i2l, 1) := by decide +kernel
theorem d_m11_named_15 : decode b_m11_named 15 = .ok (.ladd, 1) := by decide +kernel
theorem d_m11_named_16 : decode b_m11_named 16 = .ok (.ldc2_w 180, 3) := by decide +kernel
theorem d_m11_named_19 : decode b_m11_named 19 = .ok (.lmul, 1) := by decide +kernel
theorem d_m11_named_20 : decode b_m11_named 20 = .ok (.iload_n 3, 1) := by decide +kernel
theorem d_m11_named_21 : decode b_m11_named 21 = .ok (.i2l, 1) := by decide +kernel
theorem d_m11_named_22 : decode b_m11_named 22 = .ok (.ladd, 1) := by decide +kernel
theorem d_m11_named_23 : decode b_m11_named 23 = .ok (.ldc2_w 180, 3) := by decide +kernel
theorem d_m11_named_26 : decode b_m11_named 26 = .ok (.lmul, 1) := by decide +kernel
theorem d_m11_named_27 : decode b_m11_named 27 = .ok (.iload 4, 2) := by decide +kernel
theorem d_m11_named_29 : decode b_m11_named 29 = .ok (.i2l, 1) := by decide +kernel
theorem d_m11_named_30 : decode b_m11_named 30 = .ok (.ladd, 1) := by decide +kernel
theorem d_m11_named_31 : decode b_m11_named 31 = .ok (.ldc2_w 180, 3) := by decide +kernel
theorem d_m11_named_34 : decode b_m11_named 34 = .ok (.lmul, 1) := by decide +kernel
theorem d_m11_named_35 : decode b_m11_named 35 = .ok (.iload 5, 2) := by decide +kernel
theorem d_m11_named_37 : decode b_m11_named 37 = .ok (.i2l, 1) := by decide +kernel
theorem d_m11_named_38 : decode b_m11_named 38 = .ok (.ladd, 1) := by decide +kernel
theorem d_m11_named_39 : decode b_m11_named 39 = .ok (.lreturn, 1) := by decide +kernel
def s_m11_named (a0 : Int32) (a1 : Int32) (a2 : Int32) (a3 : Int32) (a4 : Int32) (a5 : Int32) (M : Mm) : Option (Int64 × Mm) := some (((((((((((32 : Int64) * a0.toInt64) + a1.toInt64) * (32 : Int64)) + a2.toInt64) * (32 : Int64)) + a3.toInt64) * (32 : Int64)) + a4.toInt64) * (32 : Int64)) + a5.toInt64, M)
set_option maxRecDepth 100000 in
set_option maxHeartbeats 4000000 in
theorem ok_m11_named {l : Launch} {V : Ev} {M M' : Mm} {r : Int64} {a0 : Int32} {a1 : Int32} {a2 : Int32} {a3 : Int32} {a4 : Int32} {a5 : Int32} (h : s_m11_named a0 a1 a2 a3 a4 a5 M = some (r, M')) : Met l y_m11_named (Cond.code y_m11_named b_m11_named 6 (some .long) :: TW) rm_m11_named (va_Pc [.int a0, .int a1, .int a2, .int a3, .int a4, .int a5] (Wd V M)) (QC V (some (.long r)) M' 0) 0 0 (Af V) := by
  refine met_of (fun x : Int64 => some (.long x)) (lv0 := [(0, .int a0), (1, .int a1), (2, .int a2), (3, .int a3), (4, .int a4), (5, .int a5)]) (by decide) (by simp [lg_sl, cat_rv, cat_i, cat_l, cat_f]) (by simp [lv_args, cat_rv, cat_i, cat_l, cat_f]) (fun C hl hR hC => ?_) h
  subst hl
  generalize mN M = n0 at hC ⊢
  unfold s_m11_named
  refine Sm.ldc2 (v := 32) hC d_m11_named_0 (tw_i 1104 (by decide +kernel)) ?_
  refine Sm.iload_n hC d_m11_named_3 rfl 0 rfl ?_
  refine Sm.i2l hC d_m11_named_4 ?_
  refine Sm.lmul hC d_m11_named_5 ?_
  refine Sm.iload_n hC d_m11_named_6 rfl 1 rfl ?_
  refine Sm.i2l hC d_m11_named_7 ?_
  refine Sm.ladd hC d_m11_named_8 ?_
  refine Sm.ldc2 (v := 32) hC d_m11_named_9 (tw_i 1104 (by decide +kernel)) ?_
  refine Sm.lmul hC d_m11_named_12 ?_
  refine Sm.iload_n hC d_m11_named_13 rfl 2 rfl ?_
  refine Sm.i2l hC d_m11_named_14 ?_
  refine Sm.ladd hC d_m11_named_15 ?_
  refine Sm.ldc2 (v := 32) hC d_m11_named_16 (tw_i 1104 (by decide +kernel)) ?_
  refine Sm.lmul hC d_m11_named_19 ?_
  refine Sm.iload_n hC d_m11_named_20 rfl 3 rfl ?_
  refine Sm.i2l hC d_m11_named_21 ?_
  refine Sm.ladd hC d_m11_named_22 ?_
  refine Sm.ldc2 (v := 32) hC d_m11_named_23 (tw_i 1104 (by decide +kernel)) ?_
  refine Sm.lmul hC d_m11_named_26 ?_
  refine Sm.iload hC d_m11_named_27 4 rfl ?_
  refine Sm.i2l hC d_m11_named_29 ?_
  refine Sm.ladd hC d_m11_named_30 ?_
  refine Sm.ldc2 (v := 32) hC d_m11_named_31 (tw_i 1104 (by decide +kernel)) ?_
  refine Sm.lmul hC d_m11_named_34 ?_
  refine Sm.iload hC d_m11_named_35 5 rfl ?_
  refine Sm.i2l hC d_m11_named_37 ?_
  refine Sm.ladd hC d_m11_named_38 ?_
  exact Sm.lret hC d_m11_named_39 rfl (Nat.sub_self _)
/-! NewsWireModel.keyHere()I -/
abbrev b_m11_keyHere : ByteArray := prog_13_method_20_code
def y_m11_keyHere : MethodName := ⟨"NewsWireModel", "keyHere", "()I"⟩
def rm_m11_keyHere : Room := { frames := 4, cells := 0, slots := 0, locals := 125 }
theorem cw_m11_keyHere : CW y_m11_keyHere b_m11_keyHere 1 (some .int) 0 := ⟨tw_i 66 (by decide +kernel), tw_i 1096 (by decide +kernel), by decide, by decide, by decide +kernel⟩
theorem d_m11_keyHere_0 : decode b_m11_keyHere 0 = .ok (.aload_n 0, 1) := by decide +kernel
theorem d_m11_keyHere_1 : decode b_m11_keyHere 1 = .ok (.invokevirtual 170, 3) := by decide +kernel
theorem d_m11_keyHere_4 : decode b_m11_keyHere 4 = .ok (.lookupswitch 62 #[(98, 46), (114, 28)], 28) := by decide +kernel
theorem d_m11_keyHere_32 : decode b_m11_keyHere 32 = .ok (.aload_n 0, 1) := by decide +kernel
theorem d_m11_keyHere_33 : decode b_m11_keyHere 33 = .ok (.iconst 0, 1) := by decide +kernel
theorem d_m11_keyHere_34 : decode b_m11_keyHere 34 = .ok (.iconst 0, 1) := by decide +kernel
theorem d_m11_keyHere_35 : decode b_m11_keyHere 35 = .ok (.bipush 18, 2) := by decide +kernel
theorem d_m11_keyHere_37 : decode b_m11_keyHere 37 = .ok (.iconst 1, 1) := by decide +kernel
theorem d_m11_keyHere_38 : decode b_m11_keyHere 38 = .ok (.bipush 14, 2) := by decide +kernel
theorem d_m11_keyHere_40 : decode b_m11_keyHere 40 = .ok (.bipush 11, 2) := by decide +kernel
theorem d_m11_keyHere_42 : decode b_m11_keyHere 42 = .ok (.invokestatic 182, 3) := by decide +kernel
theorem d_m11_keyHere_45 : decode b_m11_keyHere 45 = .ok (.invokevirtual 186, 3) := by decide +kernel
theorem d_m11_keyHere_48 : decode b_m11_keyHere 48 = .ok (.iconst 0, 1) := by decide +kernel
theorem d_m11_keyHere_49 : decode b_m11_keyHere 49 = .ok (.ireturn, 1) := by decide +kernel
theorem d_m11_keyHere_50 : decode b_m11_keyHere 50 = .ok (.aload_n 0, 1) := by decide +kernel
theorem d_m11_keyHere_51 : decode b_m11_keyHere 51 = .ok (.iconst 0, 1) := by decide +kernel
theorem d_m11_keyHere_52 : decode b_m11_keyHere 52 = .ok (.iconst 0, 1) := by decide +kernel
theorem d_m11_keyHere_53 : decode b_m11_keyHere 53 = .ok (.iconst 0, 1) := by decide +kernel
theorem d_m11_keyHere_54 : decode b_m11_keyHere 54 = .ok (.iconst 2, 1) := by decide +kernel
theorem d_m11_keyHere_55 : decode b_m11_keyHere 55 = .ok (.iconst 1, 1) := by decide +kernel
theorem d_m11_keyHere_56 : decode b_m11_keyHere 56 = .ok (.bipush 18, 2) := by decide +kernel
theorem d_m11_keyHere_58 : decode b_m11_keyHere 58 = .ok (.invokestatic 182, 3) := by decide +kernel
theorem d_m11_keyHere_61 : decode b_m11_keyHere 61 = .ok (.invokevirtual 186, 3) := by decide +kernel
theorem d_m11_keyHere_64 : decode b_m11_keyHere 64 = .ok (.iconst 1, 1) := by decide +kernel
theorem d_m11_keyHere_65 : decode b_m11_keyHere 65 = .ok (.ireturn, 1) := by decide +kernel
theorem d_m11_keyHere_66 : decode b_m11_keyHere 66 = .ok (.aload_n 0, 1) := by decide +kernel
theorem d_m11_keyHere_67 : decode b_m11_keyHere 67 = .ok (.iconst 0, 1) := by decide +kernel
theorem d_m11_keyHere_68 : decode b_m11_keyHere 68 = .ok (.iconst 0, 1) := by decide +kernel
theorem d_m11_keyHere_69 : decode b_m11_keyHere 69 = .ok (.iconst 3, 1) := by decide +kernel
theorem d_m11_keyHere_70 : decode b_m11_keyHere 70 = .ok (.bipush 15, 2) := by decide +kernel
theorem d_m11_keyHere_72 : decode b_m11_keyHere 72 = .ok (.bipush 19, 2) := by decide +kernel
theorem d_m11_keyHere_74 : decode b_m11_keyHere 74 = .ok (.bipush 20, 2) := by decide +kernel
theorem d_m11_keyHere_76 : decode b_m11_keyHere 76 = .ok (.invokestatic 182, 3) := by decide +kernel
theorem d_m11_keyHere_79 : decode b_m11_keyHere 79 = .ok (.invokevirtual 186, 3) := by decide +kernel
theorem d_m11_keyHere_82 : decode b_m11_keyHere 82 = .ok (.iconst 2, 1) := by decide +kernel
theorem d_m11_keyHere_83 : decode b_m11_keyHere 83 = .ok (.ireturn, 1) := by decide +kernel
def s_m11_keyHere (r0 : Nat) (M : Mm) : Option (Int32 × Mm) := cl (has M r0 21) (s_m11_here r0 M) (fun v1 M2 => (if v1 = 98 then cl true (s_m11_named (0 : Int32) (0 : Int32) (0 : Int32) (2 : Int32) (1 : Int32) (18 : Int32) M2) (fun v3 M4 => cl (has M4 r0 21) (s_m11_letters r0 v3 M4) (fun _ M5 => some ((1 : Int32), M5))) else if v1 = 114 then cl true (s_m11_named (0 : Int32) (0 : Int32) (18 : Int32) (1 : Int32) (14 : Int32) (11 : Int32) M2) (fun v6 M7 => cl (has M7 r0 21) (s_m11_letters r0 v6 M7) (fun _ M8 => some ((0 : Int32), M8))) else cl true (s_m11_named (0 : Int32) (0 : Int32) (3 : Int32) (15 : Int32) (19 : Int32) (20 : Int32) M2) (fun v9 M10 => cl (has M10 r0 21) (s_m11_letters r0 v9 M10) (fun _ M11 => some ((2 : Int32), M11)))))
set_option maxRecDepth 100000 in
set_option maxHeartbeats 4000000 in
theorem ok_m11_keyHere {l : Launch} {V : Ev} {M M' : Mm} {r : Int32} {r0 : Nat} (h : s_m11_keyHere r0 M = some (r, M')) : Met l y_m11_keyHere (Cond.code y_m11_keyHere b_m11_keyHere 1 (some .int) :: TW) rm_m11_keyHere (va_Pc [rv V.1 r0] (Wd V M)) (QC V (some (.int r)) M' 0) 0 0 (Af V) := by
  refine met_of (fun x : Int32 => some (.int x)) (lv0 := [(0, rv V.1 r0)]) (by decide) (by simp [lg_sl, cat_rv, cat_i, cat_l, cat_f]) (by simp [lv_args, cat_rv, cat_i, cat_l, cat_f]) (fun C hl hR hC => ?_) h
  subst hl
  generalize mN M = n0 at hC ⊢
  unfold s_m11_keyHere
  refine Sm.aload_n hC d_m11_keyHere_0 rfl 0 rfl ?_
  refine Sm.callVi 11 (As := []) (st := []) hC hR cw_m11_here (tw_i 1097 (by decide +kernel)) (tw_i 1099 (by decide +kernel)) (tw_i 28 (by decide +kernel)) ⟨_, rfl, rfl⟩ (fun r9 M9 h9 => ok_m11_here h9) rfl rfl (RW.of ⟨rfl, rfl, by decide, by decide⟩) (by simp) d_m11_keyHere_1 (fun v1 M2 => ?_)
  refine Sm.if_ (fun h9 => ?_) (fun h4_0 => ?_)
  · refine Sm.lsw (tgt := 50) (off := 46) hC d_m11_keyHere_4 (by decide) (by rw [h9] <;> rfl) (by decide) ?_
    refine Sm.aload_n hC d_m11_keyHere_50 rfl 0 rfl ?_
    refine Sm.iconst (v := 0) hC d_m11_keyHere_51 (by decide) ?_
    refine Sm.iconst (v := 0) hC d_m11_keyHere_52 (by decide) ?_
    refine Sm.iconst (v := 0) hC d_m11_keyHere_53 (by decide) ?_
    refine Sm.iconst (v := 2) hC d_m11_keyHere_54 (by decide) ?_
    refine Sm.iconst (v := 1) hC d_m11_keyHere_55 (by decide) ?_
    refine Sm.bipush (v := 18) hC d_m11_keyHere_56 (by decide) ?_
    refine Sm.callSl (As := [.int (0 : Int32), .int (0 : Int32), .int (0 : Int32), .int (2 : Int32), .int (1 : Int32), .int (18 : Int32)]) (st := [rv V.1 r0]) hC hR cw_m11_named (tw_i 1101 (by decide +kernel)) (tw_i 1102 (by decide +kernel)) (fun r9 M9 h9 => ok_m11_named h9) rfl rfl (RW.of ⟨rfl, rfl, by decide, by decide⟩) (by simp) d_m11_keyHere_58 (fun v3 M4 => ?_)
    refine Sm.callVv 11 (As := [.long v3]) (st := []) hC hR cw_m11_letters (tw_i 1105 (by decide +kernel)) (tw_i 1107 (by decide +kernel)) (tw_i 29 (by decide +kernel)) ⟨_, rfl, rfl⟩ (fun r9 M9 h9 => ok_m11_letters h9) rfl rfl (RW.of ⟨rfl, rfl, by decide, by decide⟩) (by simp) d_m11_keyHere_61 (fun _ M5 => ?_)
    refine Sm.iconst (v := 1) hC d_m11_keyHere_64 (by decide) ?_
    exact Sm.iret hC d_m11_keyHere_65 rfl (Nat.sub_self _)
  refine Sm.if_ (fun h9 => ?_) (fun h4_1 => ?_)
  · refine Sm.lsw (tgt := 32) (off := 28) hC d_m11_keyHere_4 (by decide) (by rw [h9] <;> rfl) (by decide) ?_
    refine Sm.aload_n hC d_m11_keyHere_32 rfl 0 rfl ?_
    refine Sm.iconst (v := 0) hC d_m11_keyHere_33 (by decide) ?_
    refine Sm.iconst (v := 0) hC d_m11_keyHere_34 (by decide) ?_
    refine Sm.bipush (v := 18) hC d_m11_keyHere_35 (by decide) ?_
    refine Sm.iconst (v := 1) hC d_m11_keyHere_37 (by decide) ?_
    refine Sm.bipush (v := 14) hC d_m11_keyHere_38 (by decide) ?_
    refine Sm.bipush (v := 11) hC d_m11_keyHere_40 (by decide) ?_
    refine Sm.callSl (As := [.int (0 : Int32), .int (0 : Int32), .int (18 : Int32), .int (1 : Int32), .int (14 : Int32), .int (11 : Int32)]) (st := [rv V.1 r0]) hC hR cw_m11_named (tw_i 1101 (by decide +kernel)) (tw_i 1102 (by decide +kernel)) (fun r9 M9 h9 => ok_m11_named h9) rfl rfl (RW.of ⟨rfl, rfl, by decide, by decide⟩) (by simp) d_m11_keyHere_42 (fun v6 M7 => ?_)
    refine Sm.callVv 11 (As := [.long v6]) (st := []) hC hR cw_m11_letters (tw_i 1105 (by decide +kernel)) (tw_i 1107 (by decide +kernel)) (tw_i 29 (by decide +kernel)) ⟨_, rfl, rfl⟩ (fun r9 M9 h9 => ok_m11_letters h9) rfl rfl (RW.of ⟨rfl, rfl, by decide, by decide⟩) (by simp) d_m11_keyHere_45 (fun _ M8 => ?_)
    refine Sm.iconst (v := 0) hC d_m11_keyHere_48 (by decide) ?_
    exact Sm.iret hC d_m11_keyHere_49 rfl (Nat.sub_self _)
  refine Sm.lsw (tgt := 66) (off := 62) hC d_m11_keyHere_4 (by decide) ((lv_osw h4_0 rfl).trans ((lv_osw h4_1 rfl).trans (rfl))) (by decide) ?_
  refine Sm.aload_n hC d_m11_keyHere_66 rfl 0 rfl ?_
  refine Sm.iconst (v := 0) hC d_m11_keyHere_67 (by decide) ?_
  refine Sm.iconst (v := 0) hC d_m11_keyHere_68 (by decide) ?_
  refine Sm.iconst (v := 3) hC d_m11_keyHere_69 (by decide) ?_
  refine Sm.bipush (v := 15) hC d_m11_keyHere_70 (by decide) ?_
  refine Sm.bipush (v := 19) hC d_m11_keyHere_72 (by decide) ?_
  refine Sm.bipush (v := 20) hC d_m11_keyHere_74 (by decide) ?_
  refine Sm.callSl (As := [.int (0 : Int32), .int (0 : Int32), .int (3 : Int32), .int (15 : Int32), .int (19 : Int32), .int (20 : Int32)]) (st := [rv V.1 r0]) hC hR cw_m11_named (tw_i 1101 (by decide +kernel)) (tw_i 1102 (by decide +kernel)) (fun r9 M9 h9 => ok_m11_named h9) rfl rfl (RW.of ⟨rfl, rfl, by decide, by decide⟩) (by simp) d_m11_keyHere_76 (fun v9 M10 => ?_)
  refine Sm.callVv 11 (As := [.long v9]) (st := []) hC hR cw_m11_letters (tw_i 1105 (by decide +kernel)) (tw_i 1107 (by decide +kernel)) (tw_i 29 (by decide +kernel)) ⟨_, rfl, rfl⟩ (fun r9 M9 h9 => ok_m11_letters h9) rfl rfl (RW.of ⟨rfl, rfl, by decide, by decide⟩) (by simp) d_m11_keyHere_79 (fun _ M11 => ?_)
  refine Sm.iconst (v := 2) hC d_m11_keyHere_82 (by decide) ?_
  exact Sm.iret hC d_m11_keyHere_83 rfl (Nat.sub_self _)
/-! NewsWireModel.fieldHere()I -/
abbrev b_m11_fieldHere : ByteArray := prog_13_method_21_code
def y_m11_fieldHere : MethodName := ⟨"NewsWireModel", "fieldHere", "()I"⟩
def rm_m11_fieldHere : Room := { frames := 4, cells := 0, slots := 0, locals := 125 }
theorem cw_m11_fieldHere : CW y_m11_fieldHere b_m11_fieldHere 1 (some .int) 0 := ⟨tw_i 66 (by decide +kernel), tw_i 1125 (by decide +kernel), by decide, by decide, by decide +kernel⟩
theorem d_m11_fieldHere_0 : decode b_m11_fieldHere 0 = .ok (.aload_n 0, 1) := by decide +kernel
theorem d_m11_fieldHere_1 : decode b_m11_fieldHere 1 = .ok (.invokevirtual 170, 3) := by decide +kernel
theorem d_m11_fieldHere_4 : decode b_m11_fieldHere 4 = .ok (.lookupswitch 119 #[(98, 82), (107, 44), (115, 62), (119, 100)], 44) := by decide +kernel
theorem d_m11_fieldHere_48 : decode b_m11_fieldHere 48 = .ok (.aload_n 0, 1) := by decide +kernel
theorem d_m11_fieldHere_49 : decode b_m11_fieldHere 49 = .ok (.iconst 0, 1) := by decide +kernel
theorem d_m11_fieldHere_50 : decode b_m11_fieldHere 50 = .ok (.iconst 0, 1) := by decide +kernel
theorem d_m11_fieldHere_51 : decode b_m11_fieldHere 51 = .ok (.bipush 11, 2) := by decide +kernel
theorem d_m11_fieldHere_53 : decode b_m11_fieldHere 53 = .ok (.bipush 9, 2) := by decide +kernel
theorem d_m11_fieldHere_55 : decode b_m11_fieldHere 55 = .ok (.bipush 14, 2) := by decide +kernel
theorem d_m11_fieldHere_57 : decode b_m11_fieldHere 57 = .ok (.iconst 4, 1) := by decide +kernel
theorem d_m11_fieldHere_58 : decode b_m11_fieldHere 58 = .ok (.invokestatic 182, 3) := by decide +kernel
theorem d_m11_fieldHere_61 : decode b_m11_fieldHere 61 = .ok (.invokevirtual 186, 3) := by decide +kernel
theorem d_m11_fieldHere_64 : decode b_m11_fieldHere 64 = .ok (.iconst 0, 1) := by decide +kernel
theorem d_m11_fieldHere_65 : decode b_m11_fieldHere 65 = .ok (.ireturn, 1) := by decide +kernel
theorem d_m11_fieldHere_66 : decode b_m11_fieldHere 66 = .ok (.aload_n 0, 1) := by decide +kernel
theorem d_m11_fieldHere_67 : decode b_m11_fieldHere 67 = .ok (.iconst 0, 1) := by decide +kernel
theorem d_m11_fieldHere_68 : decode b_m11_fieldHere 68 = .ok (.bipush 19, 2) := by decide +kernel
theorem d_m11_fieldHere_70 : decode b_m11_fieldHere 70 = .ok (.bipush 20, 2) := by decide +kernel
theorem d_m11_fieldHere_72 : decode b_m11_fieldHere 72 = .ok (.bipush 15, 2) := by decide +kernel
theorem d_m11_fieldHere_74 : decode b_m11_fieldHere 74 = .ok (.bipush 18, 2) := by decide +kernel
theorem d_m11_fieldHere_76 : decode b_m11_fieldHere 76 = .ok (.bipush 25, 2) := by decide +kernel
theorem d_m11_fieldHere_78 : decode b_m11_fieldHere 78 = .ok (.invokestatic 182, 3) := by decide +kernel
theorem d_m11_fieldHere_81 : decode b_m11_fieldHere 81 = .ok (.invokevirtual 186, 3) := by decide +kernel
theorem d_m11_fieldHere_84 : decode b_m11_fieldHere 84 = .ok (.iconst 1, 1) := by decide +kernel
theorem d_m11_fieldHere_85 : decode b_m11_fieldHere 85 = .ok (.ireturn, 1) := by decide +kernel
theorem d_m11_fieldHere_86 : decode b_m11_fieldHere 86 = .ok (.aload_n 0, 1) := by decide +kernel
theorem d_m11_fieldHere_87 : decode b_m11_fieldHere 87 = .ok (.iconst 2, 1) := by decide +kernel
theorem d_m11_fieldHere_88 : decode b_m11_fieldHere 88 = .ok (.bipush 21, 2) := by decide +kernel
theorem d_m11_fieldHere_90 : decode b_m11_fieldHere 90 = .ok (.bipush 18, 2) := by decide +kernel
theorem d_m11_fieldHere_92 : decode b_m11_fieldHere 92 = .ok (.iconst 5, 1) := by decide +kernel
theorem d_m11_fieldHere_93 : decode b_m11_fieldHere 93 = .ok (.iconst 1, 1) := by decide +kernel
theorem d_m11_fieldHere_94 : decode b_m11_fieldHere 94 = .ok (.bipush 21, 2) := by decide +kernel
theorem d_m11_fieldHere_96 : decode b_m11_fieldHere 96 = .ok (.invokestatic 182, 3) := by decide +kernel
theorem d_m11_fieldHere_99 : decode b_m11_fieldHere 99 = .ok (.invokevirtual 186, 3) := by decide +kernel
theorem d_m11_fieldHere_102 : decode b_m11_fieldHere 102 = .ok (.iconst 2, 1) := by decide +kernel
theorem d_m11_fieldHere_103 : decode b_m11_fieldHere 103 = .ok (.ireturn, 1) := by decide +kernel
theorem d_m11_fieldHere_104 : decode b_m11_fieldHere 104 = .ok (.aload_n 0, 1) := by decide +kernel
theorem d_m11_fieldHere_105 : decode b_m11_fieldHere 105 = .ok (.iconst 0, 1) := by decide +kernel
theorem d_m11_fieldHere_106 : decode b_m11_fieldHere 106 = .ok (.bipush 23, 2) := by decide +kernel
theorem d_m11_fieldHere_108 : decode b_m11_fieldHere 108 = .ok (.bipush 15, 2) := by decide +kernel
theorem d_m11_fieldHere_110 : decode b_m11_fieldHere 110 = .ok (.bipush 18, 2) := by decide +kernel
theorem d_m11_fieldHere_112 : decode b_m11_fieldHere 112 = .ok (.iconst 4, 1) := by decide +kernel
theorem d_m11_fieldHere_113 : decode b_m11_fieldHere 113 = .ok (.bipush 19, 2) := by decide +kernel
theorem d_m11_fieldHere_115 : decode b_m11_fieldHere 115 = .ok (.invokestatic 182, 3) := by decide +kernel
theorem d_m11_fieldHere_118 : decode b_m11_fieldHere 118 = .ok (.invokevirtual 186, 3) := by decide +kernel
theorem d_m11_fieldHere_121 : decode b_m11_fieldHere 121 = .ok (.iconst 3, 1) := by decide +kernel
theorem d_m11_fieldHere_122 : decode b_m11_fieldHere 122 = .ok (.ireturn, 1) := by decide +kernel
theorem d_m11_fieldHere_123 : decode b_m11_fieldHere 123 = .ok (.aload_n 0, 1) := by decide +kernel
theorem d_m11_fieldHere_124 : decode b_m11_fieldHere 124 = .ok (.iconst 0, 1) := by decide +kernel
theorem d_m11_fieldHere_125 : decode b_m11_fieldHere 125 = .ok (.bipush 16, 2) := by decide +kernel
theorem d_m11_fieldHere_127 : decode b_m11_fieldHere 127 = .ok (.iconst 1, 1) := by decide +kernel
theorem d_m11_fieldHere_128 : decode b_m11_fieldHere 128 = .ok (.bipush 16, 2) := by decide +kernel
theorem d_m11_fieldHere_130 : decode b_m11_fieldHere 130 = .ok (.iconst 5, 1) := by decide +kernel
theorem d_m11_fieldHere_131 : decode b_m11_fieldHere 131 = .ok (.bipush 18, 2) := by decide +kernel
theorem d_m11_fieldHere_133 : decode b_m11_fieldHere 133 = .ok (.invokestatic 182, 3) := by decide +kernel
theorem d_m11_fieldHere_136 : decode b_m11_fieldHere 136 = .ok (.invokevirtual 186, 3) := by decide +kernel
theorem d_m11_fieldHere_139 : decode b_m11_fieldHere 139 = .ok (.iconst 4, 1) := by decide +kernel
theorem d_m11_fieldHere_140 : decode b_m11_fieldHere 140 = .ok (.ireturn, 1) := by decide +kernel
def s_m11_fieldHere (r0 : Nat) (M : Mm) : Option (Int32 × Mm) := cl (has M r0 21) (s_m11_here r0 M) (fun v1 M2 => (if v1 = 98 then cl true (s_m11_named (2 : Int32) (21 : Int32) (18 : Int32) (5 : Int32) (1 : Int32) (21 : Int32) M2) (fun v3 M4 => cl (has M4 r0 21) (s_m11_letters r0 v3 M4) (fun _ M5 => some ((2 : Int32), M5))) else if v1 = 107 then cl true (s_m11_named (0 : Int32) (0 : Int32) (11 : Int32) (9 : Int32) (14 : Int32) (4 : Int32) M2) (fun v6 M7 => cl (has M7 r0 21) (s_m11_letters r0 v6 M7) (fun _ M8 => some ((0 : Int32), M8))) else if v1 = 115 then cl true (s_m11_named (0 : Int32) (19 : Int32) (20 : Int32) (15 : Int32) (18 : Int32) (25 : Int32) M2) (fun v9 M10 => cl (has M10 r0 21) (s_m11_letters r0 v9 M10) (fun _ M11 => some ((1 : Int32), M11))) else if v1 = 119 then cl true (s_m11_named (0 : Int32) (23 : Int32) (15 : Int32) (18 : Int32) (4 : Int32) (19 : Int32) M2) (fun v12 M13 => cl (has M13 r0 21) (s_m11_letters r0 v12 M13) (fun _ M14 => some ((3 : Int32), M14))) else cl true (s_m11_named (0 : Int32) (16 : Int32) (1 : Int32) (16 : Int32) (5 : Int32) (18 : Int32) M2) (fun v15 M16 => cl (has M16 r0 21) (s_m11_letters r0 v15 M16) (fun _ M17 => some ((4 : Int32), M17)))))
set_option maxRecDepth 100000 in
set_option maxHeartbeats 4000000 in
theorem ok_m11_fieldHere {l : Launch} {V : Ev} {M M' : Mm} {r : Int32} {r0 : Nat} (h : s_m11_fieldHere r0 M = some (r, M')) : Met l y_m11_fieldHere (Cond.code y_m11_fieldHere b_m11_fieldHere 1 (some .int) :: TW) rm_m11_fieldHere (va_Pc [rv V.1 r0] (Wd V M)) (QC V (some (.int r)) M' 0) 0 0 (Af V) := by
  refine met_of (fun x : Int32 => some (.int x)) (lv0 := [(0, rv V.1 r0)]) (by decide) (by simp [lg_sl, cat_rv, cat_i, cat_l, cat_f]) (by simp [lv_args, cat_rv, cat_i, cat_l, cat_f]) (fun C hl hR hC => ?_) h
  subst hl
  generalize mN M = n0 at hC ⊢
  unfold s_m11_fieldHere
  refine Sm.aload_n hC d_m11_fieldHere_0 rfl 0 rfl ?_
  refine Sm.callVi 11 (As := []) (st := []) hC hR cw_m11_here (tw_i 1097 (by decide +kernel)) (tw_i 1099 (by decide +kernel)) (tw_i 28 (by decide +kernel)) ⟨_, rfl, rfl⟩ (fun r9 M9 h9 => ok_m11_here h9) rfl rfl (RW.of ⟨rfl, rfl, by decide, by decide⟩) (by simp) d_m11_fieldHere_1 (fun v1 M2 => ?_)
  refine Sm.if_ (fun h9 => ?_) (fun h4_0 => ?_)
  · refine Sm.lsw (tgt := 86) (off := 82) hC d_m11_fieldHere_4 (by decide) (by rw [h9] <;> rfl) (by decide) ?_
    refine Sm.aload_n hC d_m11_fieldHere_86 rfl 0 rfl ?_
    refine Sm.iconst (v := 2) hC d_m11_fieldHere_87 (by decide) ?_
    refine Sm.bipush (v := 21) hC d_m11_fieldHere_88 (by decide) ?_
    refine Sm.bipush (v := 18) hC d_m11_fieldHere_90 (by decide) ?_
    refine Sm.iconst (v := 5) hC d_m11_fieldHere_92 (by decide) ?_
    refine Sm.iconst (v := 1) hC d_m11_fieldHere_93 (by decide) ?_
    refine Sm.bipush (v := 21) hC d_m11_fieldHere_94 (by decide) ?_
    refine Sm.callSl (As := [.int (2 : Int32), .int (21 : Int32), .int (18 : Int32), .int (5 : Int32), .int (1 : Int32), .int (21 : Int32)]) (st := [rv V.1 r0]) hC hR cw_m11_named (tw_i 1101 (by decide +kernel)) (tw_i 1102 (by decide +kernel)) (fun r9 M9 h9 => ok_m11_named h9) rfl rfl (RW.of ⟨rfl, rfl, by decide, by decide⟩) (by simp) d_m11_fieldHere_96 (fun v3 M4 => ?_)
    refine Sm.callVv 11 (As := [.long v3]) (st := []) hC hR cw_m11_letters (tw_i 1105 (by decide +kernel)) (tw_i 1107 (by decide +kernel)) (tw_i 29 (by decide +kernel)) ⟨_, rfl, rfl⟩ (fun r9 M9 h9 => ok_m11_letters h9) rfl rfl (RW.of ⟨rfl, rfl, by decide, by decide⟩) (by simp) d_m11_fieldHere_99 (fun _ M5 => ?_)
    refine Sm.iconst (v := 2) hC d_m11_fieldHere_102 (by decide) ?_
    exact Sm.iret hC d_m11_fieldHere_103 rfl (Nat.sub_self _)
  refine Sm.if_ (fun h9 => ?_) (fun h4_1 => ?_)
  · refine Sm.lsw (tgt := 48) (off := 44) hC d_m11_fieldHere_4 (by decide) (by rw [h9] <;> rfl) (by decide) ?_
    refine Sm.aload_n hC d_m11_fieldHere_48 rfl 0 rfl ?_
    refine Sm.iconst (v := 0) hC d_m11_fieldHere_49 (by decide) ?_
    refine Sm.iconst (v := 0) hC d_m11_fieldHere_50 (by decide) ?_
    refine Sm.bipush (v := 11) hC d_m11_fieldHere_51 (by decide) ?_
    refine Sm.bipush (v := 9) hC d_m11_fieldHere_53 (by decide) ?_
    refine Sm.bipush (v := 14) hC d_m11_fieldHere_55 (by decide) ?_
    refine Sm.iconst (v := 4) hC d_m11_fieldHere_57 (by decide) ?_
    refine Sm.callSl (As := [.int (0 : Int32), .int (0 : Int32), .int (11 : Int32), .int (9 : Int32), .int (14 : Int32), .int (4 : Int32)]) (st := [rv V.1 r0]) hC hR cw_m11_named (tw_i 1101 (by decide +kernel)) (tw_i 1102 (by decide +kernel)) (fun r9 M9 h9 => ok_m11_named h9) rfl rfl (RW.of ⟨rfl, rfl, by decide, by decide⟩) (by simp) d_m11_fieldHere_58 (fun v6 M7 => ?_)
    refine Sm.callVv 11 (As := [.long v6]) (st := []) hC hR cw_m11_letters (tw_i 1105 (by decide +kernel)) (tw_i 1107 (by decide +kernel)) (tw_i 29 (by decide +kernel)) ⟨_, rfl, rfl⟩ (fun r9 M9 h9 => ok_m11_letters h9) rfl rfl (RW.of ⟨rfl, rfl, by decide, by decide⟩) (by simp) d_m11_fieldHere_61 (fun _ M8 => ?_)
    refine Sm.iconst (v := 0) hC d_m11_fieldHere_64 (by decide) ?_
    exact Sm.iret hC d_m11_fieldHere_65 rfl (Nat.sub_self _)
  refine Sm.if_ (fun h9 => ?_) (fun h4_2 => ?_)
  · refine Sm.lsw (tgt := 66) (off := 62) hC d_m11_fieldHere_4 (by decide) (by rw [h9] <;> rfl) (by decide) ?_
    refine Sm.aload_n hC d_m11_fieldHere_66 rfl 0 rfl ?_
    refine Sm.iconst (v := 0) hC d_m11_fieldHere_67 (by decide) ?_
    refine Sm.bipush (v := 19) hC d_m11_fieldHere_68 (by decide) ?_
    refine Sm.bipush (v := 20) hC d_m11_fieldHere_70 (by decide) ?_
    refine Sm.bipush (v := 15) hC d_m11_fieldHere_72 (by decide) ?_
    refine Sm.bipush (v := 18) hC d_m11_fieldHere_74 (by decide) ?_
    refine Sm.bipush (v := 25) hC d_m11_fieldHere_76 (by decide) ?_
    refine Sm.callSl (As := [.int (0 : Int32), .int (19 : Int32), .int (20 : Int32), .int (15 : Int32), .int (18 : Int32), .int (25 : Int32)]) (st := [rv V.1 r0]) hC hR cw_m11_named (tw_i 1101 (by decide +kernel)) (tw_i 1102 (by decide +kernel)) (fun r9 M9 h9 => ok_m11_named h9) rfl rfl (RW.of ⟨rfl, rfl, by decide, by decide⟩) (by simp) d_m11_fieldHere_78 (fun v9 M10 => ?_)
    refine Sm.callVv 11 (As := [.long v9]) (st := []) hC hR cw_m11_letters (tw_i 1105 (by decide +kernel)) (tw_i 1107 (by decide +kernel)) (tw_i 29 (by decide +kernel)) ⟨_, rfl, rfl⟩ (fun r9 M9 h9 => ok_m11_letters h9) rfl rfl (RW.of ⟨rfl, rfl, by decide, by decide⟩) (by simp) d_m11_fieldHere_81 (fun _ M11 => ?_)
    refine Sm.iconst (v := 1) hC d_m11_fieldHere_84 (by decide) ?_
    exact Sm.iret hC d_m11_fieldHere_85 rfl (Nat.sub_self _)
  refine Sm.if_ (fun h9 => ?_) (fun h4_3 => ?_)
  · refine Sm.lsw (tgt := 104) (off := 100) hC d_m11_fieldHere_4 (by decide) (by rw [h9] <;> rfl) (by decide) ?_
    refine Sm.aload_n hC d_m11_fieldHere_104 rfl 0 rfl ?_
    refine Sm.iconst (v := 0) hC d_m11_fieldHere_105 (by decide) ?_
    refine Sm.bipush (v := 23) hC d_m11_fieldHere_106 (by decide) ?_
    refine Sm.bipush (v := 15) hC d_m11_fieldHere_108 (by decide) ?_
    refine Sm.bipush (v := 18) hC d_m11_fieldHere_110 (by decide) ?_
    refine Sm.iconst (v := 4) hC d_m11_fieldHere_112 (by decide) ?_
    refine Sm.bipush (v := 19) hC d_m11_fieldHere_113 (by decide) ?_
    refine Sm.callSl (As := [.int (0 : Int32), .int (23 : Int32), .int (15 : Int32), .int (18 : Int32), .int (4 : Int32), .int (19 : Int32)]) (st := [rv V.1 r0]) hC hR cw_m11_named (tw_i 1101 (by decide +kernel)) (tw_i 1102 (by decide +kernel)) (fun r9 M9 h9 => ok_m11_named h9) rfl rfl (RW.of ⟨rfl, rfl, by decide, by decide⟩) (by simp) d_m11_fieldHere_115 (fun v12 M13 => ?_)
    refine Sm.callVv 11 (As := [.long v12]) (st := []) hC hR cw_m11_letters (tw_i 1105 (by decide +kernel)) (tw_i 1107 (by decide +kernel)) (tw_i 29 (by decide +kernel)) ⟨_, rfl, rfl⟩ (fun r9 M9 h9 => ok_m11_letters h9) rfl rfl (RW.of ⟨rfl, rfl, by decide, by decide⟩) (by simp) d_m11_fieldHere_118 (fun _ M14 => ?_)
    refine Sm.iconst (v := 3) hC d_m11_fieldHere_121 (by decide) ?_
    exact Sm.iret hC d_m11_fieldHere_122 rfl (Nat.sub_self _)
  refine Sm.lsw (tgt := 123) (off := 119) hC d_m11_fieldHere_4 (by decide) ((lv_osw h4_0 rfl).trans ((lv_osw h4_1 rfl).trans ((lv_osw h4_2 rfl).trans ((lv_osw h4_3 rfl).trans (rfl))))) (by decide) ?_
  refine Sm.aload_n hC d_m11_fieldHere_123 rfl 0 rfl ?_
  refine Sm.iconst (v := 0) hC d_m11_fieldHere_124 (by decide) ?_
  refine Sm.bipush (v := 16) hC d_m11_fieldHere_125 (by decide) ?_
  refine Sm.iconst (v := 1) hC d_m11_fieldHere_127 (by decide) ?_
  refine Sm.bipush (v := 16) hC d_m11_fieldHere_128 (by decide) ?_
  refine Sm.iconst (v := 5) hC d_m11_fieldHere_130 (by decide) ?_
  refine Sm.bipush (v := 18) hC d_m11_fieldHere_131 (by decide) ?_
  refine Sm.callSl (As := [.int (0 : Int32), .int (16 : Int32), .int (1 : Int32), .int (16 : Int32), .int (5 : Int32), .int (18 : Int32)]) (st := [rv V.1 r0]) hC hR cw_m11_named (tw_i 1101 (by decide +kernel)) (tw_i 1102 (by decide +kernel)) (fun r9 M9 h9 => ok_m11_named h9) rfl rfl (RW.of ⟨rfl, rfl, by decide, by decide⟩) (by simp) d_m11_fieldHere_133 (fun v15 M16 => ?_)
  refine Sm.callVv 11 (As := [.long v15]) (st := []) hC hR cw_m11_letters (tw_i 1105 (by decide +kernel)) (tw_i 1107 (by decide +kernel)) (tw_i 29 (by decide +kernel)) ⟨_, rfl, rfl⟩ (fun r9 M9 h9 => ok_m11_letters h9) rfl rfl (RW.of ⟨rfl, rfl, by decide, by decide⟩) (by simp) d_m11_fieldHere_136 (fun _ M17 => ?_)
  refine Sm.iconst (v := 4) hC d_m11_fieldHere_139 (by decide) ?_
  exact Sm.iret hC d_m11_fieldHere_140 rfl (Nat.sub_self _)
/-! NewsWireModel.numberHere()I -/
abbrev b_m11_numberHere : ByteArray := prog_13_method_22_code
def y_m11_numberHere : MethodName := ⟨"NewsWireModel", "numberHere", "()I"⟩
def rm_m11_numberHere : Room := { frames := 2, cells := 0, slots := 0, locals := 82 }
theorem cw_m11_numberHere : CW y_m11_numberHere b_m11_numberHere 3 (some .int) 0 := ⟨tw_i 66 (by decide +kernel), tw_i 1117 (by decide +kernel), by decide, by decide, by decide +kernel⟩
theorem d_m11_numberHere_0 : decode b_m11_numberHere 0 = .ok (.iconst 0, 1) := by decide +kernel
theorem d_m11_numberHere_1 : decode b_m11_numberHere 1 = .ok (.istore_n 1, 1) := by decide +kernel
theorem d_m11_numberHere_2 : decode b_m11_numberHere 2 = .ok (.iconst 0, 1) := by decide +kernel
theorem d_m11_numberHere_3 : decode b_m11_numberHere 3 = .ok (.istore_n 2, 1) := by decide +kernel
theorem d_m11_numberHere_4 : decode b_m11_numberHere 4 = .ok (.aload_n 0, 1) := by decide +kernel
theorem d_m11_numberHere_5 : decode b_m11_numberHere 5 = .ok (.getfield 166, 3) := by decide +kernel
theorem d_m11_numberHere_8 : decode b_m11_numberHere 8 = .ok (.ifCond .ne 51, 3) := by decide +kernel
theorem d_m11_numberHere_11 : decode b_m11_numberHere 11 = .ok (.iload_n 2, 1) := by decide +kernel
theorem d_m11_numberHere_12 : decode b_m11_numberHere 12 = .ok (.iconst 4, 1) := by decide +kernel
theorem d_m11_numberHere_13 : decode b_m11_numberHere 13 = .ok (.if_icmp .ge 46, 3) := by decide +kernel
theorem d_m11_numberHere_16 : decode b_m11_numberHere 16 = .ok (.aload_n 0, 1) := by decide +kernel
theorem d_m11_numberHere_17 : decode b_m11_numberHere 17 = .ok (.invokevirtual 170, 3) := by decide +kernel
theorem d_m11_numberHere_20 : decode b_m11_numberHere 20 = .ok (.bipush 48, 2) := by decide +kernel
theorem d_m11_numberHere_22 : decode b_m11_numberHere 22 = .ok (.bipush 57, 2) := by decide +kernel
theorem d_m11_numberHere_24 : decode b_m11_numberHere 24 = .ok (.invokestatic 135, 3) := by decide +kernel
theorem d_m11_numberHere_27 : decode b_m11_numberHere 27 = .ok (.ifCond .eq 32, 3) := by decide +kernel
theorem d_m11_numberHere_30 : decode b_m11_numberHere 30 = .ok (.bipush 10, 2) := by decide +kernel
theorem d_m11_numberHere_32 : decode b_m11_numberHere 32 = .ok (.iload_n 1, 1) := by decide +kernel
theorem d_m11_numberHere_33 : decode b_m11_numberHere 33 = .ok (.imul, 1) := by decide +kernel
theorem d_m11_numberHere_34 : decode b_m11_numberHere 34 = .ok (.aload_n 0, 1) := by decide +kernel
theorem d_m11_numberHere_35 : decode b_m11_numberHere 35 = .ok (.invokevirtual 170, 3) := by decide +kernel
theorem d_m11_numberHere_38 : decode b_m11_numberHere 38 = .ok (.iadd, 1) := by decide +kernel
theorem d_m11_numberHere_39 : decode b_m11_numberHere 39 = .ok (.bipush 48, 2) := by decide +kernel
theorem d_m11_numberHere_41 : decode b_m11_numberHere 41 = .ok (.isub, 1) := by decide +kernel
theorem d_m11_numberHere_42 : decode b_m11_numberHere 42 = .ok (.istore_n 1, 1) := by decide +kernel
theorem d_m11_numberHere_43 : decode b_m11_numberHere 43 = .ok (.aload_n 0, 1) := by decide +kernel
theorem d_m11_numberHere_44 : decode b_m11_numberHere 44 = .ok (.dup, 1) := by decide +kernel
theorem d_m11_numberHere_45 : decode b_m11_numberHere 45 = .ok (.getfield 163, 3) := by decide +kernel
theorem d_m11_numberHere_48 : decode b_m11_numberHere 48 = .ok (.iconst 1, 1) := by decide +kernel
theorem d_m11_numberHere_49 : decode b_m11_numberHere 49 = .ok (.iadd, 1) := by decide +kernel
theorem d_m11_numberHere_50 : decode b_m11_numberHere 50 = .ok (.putfield 163, 3) := by decide +kernel
theorem d_m11_numberHere_53 : decode b_m11_numberHere 53 = .ok (.iinc 2 1, 3) := by decide +kernel
theorem d_m11_numberHere_56 : decode b_m11_numberHere 56 = .ok (.goto (-52), 3) := by decide +kernel
theorem d_m11_numberHere_59 : decode b_m11_numberHere 59 = .ok (.aload_n 0, 1) := by decide +kernel
theorem d_m11_numberHere_60 : decode b_m11_numberHere 60 = .ok (.aload_n 0, 1) := by decide +kernel
theorem d_m11_numberHere_61 : decode b_m11_numberHere 61 = .ok (.getfield 166, 3) := by decide +kernel
theorem d_m11_numberHere_64 : decode b_m11_numberHere 64 = .ok (.ifCond .ne 7, 3) := by decide +kernel
theorem d_m11_numberHere_67 : decode b_m11_numberHere 67 = .ok (.iload_n 2, 1) := by decide +kernel
theorem d_m11_numberHere_68 : decode b_m11_numberHere 68 = .ok (.ifCond .ne 7, 3) := by decide +kernel
theorem d_m11_numberHere_71 : decode b_m11_numberHere 71 = .ok (.iconst 1, 1) := by decide +kernel
theorem d_m11_numberHere_72 : decode b_m11_numberHere 72 = .ok (.goto 4, 3) := by decide +kernel
theorem d_m11_numberHere_75 : decode b_m11_numberHere 75 = .ok (.iconst 0, 1) := by decide +kernel
theorem d_m11_numberHere_76 : decode b_m11_numberHere 76 = .ok (.putfield 166, 3) := by decide +kernel
theorem d_m11_numberHere_79 : decode b_m11_numberHere 79 = .ok (.iload_n 1, 1) := by decide +kernel
theorem d_m11_numberHere_80 : decode b_m11_numberHere 80 = .ok (.ireturn, 1) := by decide +kernel
def s_m11_numberHere_76  (x1 : Int32) (t0 : Nat) (t1 : Int32) (M : Mm) : Option (Int32 × Mm) := pZ M t0 21 29 t1 (fun M1 => some (x1, M1))
def s_m11_numberHere_71  (x1 : Int32) (t0 : Nat) (M : Mm) : Option (Int32 × Mm) := s_m11_numberHere_76 x1 t0 (1 : Int32) M
def s_m11_numberHere_59  (r0 : Nat) (x1 : Int32) (x2 : Int32) (M : Mm) : Option (Int32 × Mm) := gI M r0 21 29 (fun v1 => (if ¬ v1 = 0 then s_m11_numberHere_71 x1 r0 M else (if ¬ x2 = 0 then s_m11_numberHere_76 x1 r0 (0 : Int32) M else s_m11_numberHere_71 x1 r0 M)))
def s_m11_numberHere_4  : Nat → Nat → Int32 → Int32 → Mm → Option (Int32 × Mm)
  | 0, _, _, _, _ => none
  | n + 1, r0, x1, x2, M => gI M r0 21 29 (fun v1 => (if ¬ v1 = 0 then s_m11_numberHere_59 r0 x1 x2 M else (if (4 : Int32) ≤ x2 then s_m11_numberHere_59 r0 x1 x2 M else cl (has M r0 21) (s_m11_here r0 M) (fun v2 M3 => cl true (s_m11_in v2 (48 : Int32) (57 : Int32) M3) (fun v4 M5 => (if v4 = 0 then s_m11_numberHere_59 r0 x1 x2 M5 else cl (has M5 r0 21) (s_m11_here r0 M5) (fun v6 M7 => gI M7 r0 21 28 (fun v8 => pI M7 r0 21 28 (v8 + (1 : Int32)) (fun M9 => (s_m11_numberHere_4 n) r0 ((((10 : Int32) * x1) + v6) - (48 : Int32)) (x2 + 1) M9)))))))))
def s_m11_numberHere (r0 : Nat) (M : Mm) : Option (Int32 × Mm) := s_m11_numberHere_4 FU r0 (0 : Int32) (0 : Int32) M
set_option maxRecDepth 100000 in
set_option maxHeartbeats 4000000 in
theorem w_m11_numberHere_76 {V : Ev} {C : Cx} {n0 : Nat} (hC : Cok V C y_m11_numberHere.cls b_m11_numberHere 3 n0 (some .int) y_m11_numberHere.name) (hR : cR C = rm_m11_numberHere)  : ∀ (x1 : Int32) (t0 : Nat) (t1 : Int32) (M : Mm), Sm V C 3 n0 n0 (qI V C) 76 [(1, .int x1)] [.int t1, rv V.1 t0] M (s_m11_numberHere_76 x1 t0 t1 M) := by
  intro x1 t0 t1 M
  unfold s_m11_numberHere_76
  refine Sm.putZ hC fl_m11_166 rfl d_m11_numberHere_76 (fun M1 => ?_)
  refine Sm.iload_n hC d_m11_numberHere_79 rfl 0 rfl ?_
  exact Sm.iret hC d_m11_numberHere_80 rfl (Nat.sub_self _)
set_option maxRecDepth 100000 in
set_option maxHeartbeats 4000000 in
theorem w_m11_numberHere_71 {V : Ev} {C : Cx} {n0 : Nat} (hC : Cok V C y_m11_numberHere.cls b_m11_numberHere 3 n0 (some .int) y_m11_numberHere.name) (hR : cR C = rm_m11_numberHere)  : ∀ (x1 : Int32) (t0 : Nat) (M : Mm), Sm V C 3 n0 n0 (qI V C) 71 [(1, .int x1)] [rv V.1 t0] M (s_m11_numberHere_71 x1 t0 M) := by
  intro x1 t0 M
  unfold s_m11_numberHere_71
  refine Sm.iconst (v := 1) hC d_m11_numberHere_71 (by decide) ?_
  refine Sm.goto (tgt := 76) hC d_m11_numberHere_72 (by decide) ?_
  exact w_m11_numberHere_76 hC hR x1 t0 (1 : Int32) M
set_option maxRecDepth 100000 in
set_option maxHeartbeats 4000000 in
theorem w_m11_numberHere_59 {V : Ev} {C : Cx} {n0 : Nat} (hC : Cok V C y_m11_numberHere.cls b_m11_numberHere 3 n0 (some .int) y_m11_numberHere.name) (hR : cR C = rm_m11_numberHere)  : ∀ (r0 : Nat) (x1 : Int32) (x2 : Int32) (M : Mm), Sm V C 3 n0 n0 (qI V C) 59 [(0, rv V.1 r0), (1, .int x1), (2, .int x2)] [] M (s_m11_numberHere_59 r0 x1 x2 M) := by
  intro r0 x1 x2 M
  unfold s_m11_numberHere_59
  refine Sm.aload_n hC d_m11_numberHere_59 rfl 0 rfl ?_
  refine Sm.aload_n hC d_m11_numberHere_60 rfl 0 rfl ?_
  refine Sm.getI hC fl_m11_166 rfl d_m11_numberHere_61 (fun v1 => ?_)
  refine Sm.if_ne (tgt := 71) hC d_m11_numberHere_64 (by decide) ?_ ?_
  · refine Sm.sub [1] rfl ?_
    exact w_m11_numberHere_71 hC hR x1 r0 M
  · refine Sm.iload_n hC d_m11_numberHere_67 rfl 2 rfl ?_
    refine Sm.if_ne (tgt := 75) hC d_m11_numberHere_68 (by decide) ?_ ?_
    · refine Sm.iconst (v := 0) hC d_m11_numberHere_75 (by decide) ?_
      refine Sm.sub [1] rfl ?_
      exact w_m11_numberHere_76 hC hR x1 r0 (0 : Int32) M
    · refine Sm.sub [1] rfl ?_
      exact w_m11_numberHere_71 hC hR x1 r0 M
set_option maxRecDepth 100000 in
set_option maxHeartbeats 4000000 in
theorem w_m11_numberHere_4 {V : Ev} {C : Cx} {n0 : Nat} (hC : Cok V C y_m11_numberHere.cls b_m11_numberHere 3 n0 (some .int) y_m11_numberHere.name) (hR : cR C = rm_m11_numberHere)  : ∀ (n : Nat) (r0 : Nat) (x1 : Int32) (x2 : Int32) (M : Mm), Sm V C 3 n0 n0 (qI V C) 4 [(0, rv V.1 r0), (1, .int x1), (2, .int x2)] [] M (s_m11_numberHere_4 n r0 x1 x2 M) := by
  intro n
  induction n with
  | zero => exact fun r0 x1 x2 M => Sm.none_
  | succ n ih =>
    intro r0 x1 x2 M
    unfold s_m11_numberHere_4
    refine Sm.aload_n hC d_m11_numberHere_4 rfl 0 rfl ?_
    refine Sm.getI hC fl_m11_166 rfl d_m11_numberHere_5 (fun v1 => ?_)
    refine Sm.if_ne (tgt := 59) hC d_m11_numberHere_8 (by decide) ?_ ?_
    · exact w_m11_numberHere_59 hC hR r0 x1 x2 M
    · refine Sm.iload_n hC d_m11_numberHere_11 rfl 2 rfl ?_
      refine Sm.iconst (v := 4) hC d_m11_numberHere_12 (by decide) ?_
      refine Sm.icmp_ge (tgt := 59) hC d_m11_numberHere_13 (by decide) ?_ ?_
      · exact w_m11_numberHere_59 hC hR r0 x1 x2 M
      · refine Sm.aload_n hC d_m11_numberHere_16 rfl 0 rfl ?_
        refine Sm.callVi 11 (As := []) (st := []) hC hR cw_m11_here (tw_i 1097 (by decide +kernel)) (tw_i 1099 (by decide +kernel)) (tw_i 28 (by decide +kernel)) ⟨_, rfl, rfl⟩ (fun r9 M9 h9 => ok_m11_here h9) rfl rfl (RW.of ⟨rfl, rfl, by decide, by decide⟩) (by simp) d_m11_numberHere_17 (fun v2 M3 => ?_)
        refine Sm.bipush (v := 48) hC d_m11_numberHere_20 (by decide) ?_
        refine Sm.bipush (v := 57) hC d_m11_numberHere_22 (by decide) ?_
        refine Sm.callSi (As := [.int v2, .int (48 : Int32), .int (57 : Int32)]) (st := []) hC hR cw_m11_in (tw_i 1045 (by decide +kernel)) (tw_i 1046 (by decide +kernel)) (fun r9 M9 h9 => ok_m11_in h9) rfl rfl (RW.of ⟨rfl, rfl, by decide, by decide⟩) (by simp) d_m11_numberHere_24 (fun v4 M5 => ?_)
        refine Sm.if_eq (tgt := 59) hC d_m11_numberHere_27 (by decide) ?_ ?_
        · exact w_m11_numberHere_59 hC hR r0 x1 x2 M5
        · refine Sm.bipush (v := 10) hC d_m11_numberHere_30 (by decide) ?_
          refine Sm.iload_n hC d_m11_numberHere_32 rfl 1 rfl ?_
          refine Sm.imul hC d_m11_numberHere_33 ?_
          refine Sm.aload_n hC d_m11_numberHere_34 rfl 0 rfl ?_
          refine Sm.callVi 11 (As := []) (st := [.int ((10 : Int32) * x1)]) hC hR cw_m11_here (tw_i 1097 (by decide +kernel)) (tw_i 1099 (by decide +kernel)) (tw_i 28 (by decide +kernel)) ⟨_, rfl, rfl⟩ (fun r9 M9 h9 => ok_m11_here h9) rfl rfl (RW.of ⟨rfl, rfl, by decide, by decide⟩) (by simp) d_m11_numberHere_35 (fun v6 M7 => ?_)
          refine Sm.iadd hC d_m11_numberHere_38 ?_
          refine Sm.bipush (v := 48) hC d_m11_numberHere_39 (by decide) ?_
          refine Sm.isub hC d_m11_numberHere_41 ?_
          refine Sm.istore_n (i := 1) (lv' := [(1, .int ((((10 : Int32) * x1) + v6) - (48 : Int32))), (0, rv V.1 r0), (2, .int x2)]) hC d_m11_numberHere_42 rfl (by decide) (by simp [cat_rv, cat_i, cat_l, cat_f]) ?_
          refine Sm.aload_n hC d_m11_numberHere_43 rfl 1 rfl ?_
          refine Sm.dup hC d_m11_numberHere_44 (cat_rv _ _) ?_
          refine Sm.getI hC fl_m11_163 rfl d_m11_numberHere_45 (fun v8 => ?_)
          refine Sm.iconst (v := 1) hC d_m11_numberHere_48 (by decide) ?_
          refine Sm.iadd hC d_m11_numberHere_49 ?_
          refine Sm.putI hC fl_m11_163 rfl d_m11_numberHere_50 (fun M9 => ?_)
          refine Sm.iinc (v := x2 + 1) (lv' := [(2, .int (x2 + 1)), (1, .int ((((10 : Int32) * x1) + v6) - (48 : Int32))), (0, rv V.1 r0)]) hC d_m11_numberHere_53 2 rfl rfl (by decide) rfl ?_
          refine Sm.goto (tgt := 4) hC d_m11_numberHere_56 (by decide) ?_
          refine Sm.sub [2, 1, 0] rfl ?_
          exact ih r0 ((((10 : Int32) * x1) + v6) - (48 : Int32)) (x2 + 1) M9
set_option maxRecDepth 100000 in
set_option maxHeartbeats 4000000 in
theorem ok_m11_numberHere {l : Launch} {V : Ev} {M M' : Mm} {r : Int32} {r0 : Nat} (h : s_m11_numberHere r0 M = some (r, M')) : Met l y_m11_numberHere (Cond.code y_m11_numberHere b_m11_numberHere 3 (some .int) :: TW) rm_m11_numberHere (va_Pc [rv V.1 r0] (Wd V M)) (QC V (some (.int r)) M' 0) 0 0 (Af V) := by
  refine met_of (fun x : Int32 => some (.int x)) (lv0 := [(0, rv V.1 r0)]) (by decide) (by simp [lg_sl, cat_rv, cat_i, cat_l, cat_f]) (by simp [lv_args, cat_rv, cat_i, cat_l, cat_f]) (fun C hl hR hC => ?_) h
  subst hl
  generalize mN M = n0 at hC ⊢
  unfold s_m11_numberHere
  refine Sm.iconst (v := 0) hC d_m11_numberHere_0 (by decide) ?_
  refine Sm.istore_n (i := 1) (lv' := [(1, .int (0 : Int32)), (0, rv V.1 r0)]) hC d_m11_numberHere_1 rfl (by decide) (by simp [cat_rv, cat_i, cat_l, cat_f]) ?_
  refine Sm.iconst (v := 0) hC d_m11_numberHere_2 (by decide) ?_
  refine Sm.istore_n (lv' := [(2, .int (0 : Int32)), (1, .int (0 : Int32)), (0, rv V.1 r0)]) hC d_m11_numberHere_3 rfl (by decide) rfl ?_
  refine Sm.sub [2, 1, 0] rfl ?_
  exact w_m11_numberHere_4 hC hR FU r0 (0 : Int32) (0 : Int32) M
/-! NewsWireModel.testHere()V -/
theorem fl_m11_190 : FL "NewsWireModel" 190 11 30 0 false .int := ⟨_, _, _, _, rfl, in_c11, ty_c11, nm_c11, by decide, rfl, tw_i 895 (by decide +kernel), rfl, rfl, rfl, rfl⟩
theorem fl_m11_61 : FL "NewsWireModel" 61 11 22 2 true (.array .int) := ⟨_, _, _, _, rfl, in_c11, ty_c11, nm_c11, by decide, rfl, tw_i 887 (by decide +kernel), rfl, rfl, rfl, rfl⟩
theorem fl_m11_64 : FL "NewsWireModel" 64 11 23 2 true (.array .int) := ⟨_, _, _, _, rfl, in_c11, ty_c11, nm_c11, by decide, rfl, tw_i 888 (by decide +kernel), rfl, rfl, rfl, rfl⟩
theorem fl_m11_67 : FL "NewsWireModel" 67 11 24 2 true (.array .int) := ⟨_, _, _, _, rfl, in_c11, ty_c11, nm_c11, by decide, rfl, tw_i 889 (by decide +kernel), rfl, rfl, rfl, rfl⟩
theorem fl_m11_70 : FL "NewsWireModel" 70 11 25 2 true (.array .int) := ⟨_, _, _, _, rfl, in_c11, ty_c11, nm_c11, by decide, rfl, tw_i 890 (by decide +kernel), rfl, rfl, rfl, rfl⟩
abbrev b_m11_testHere : ByteArray := prog_13_method_23_code
def y_m11_testHere : MethodName := ⟨"NewsWireModel", "testHere", "()V"⟩
def rm_m11_testHere : Room := { frames := 5, cells := 0, slots := 0, locals := 145 }
theorem cw_m11_testHere : CW y_m11_testHere b_m11_testHere 2 none 0 := ⟨tw_i 66 (by decide +kernel), tw_i 1121 (by decide +kernel), by decide, by decide, by decide +kernel⟩
theorem d_m11_testHere_0 : decode b_m11_testHere 0 = .ok (.iconst 3, 1) := by decide +kernel
theorem d_m11_testHere_1 : decode b_m11_testHere 1 = .ok (.aload_n 0, 1) := by decide +kernel
theorem d_m11_testHere_2 : decode b_m11_testHere 2 = .ok (.getfield 190, 3) := by decide +kernel
theorem d_m11_testHere_5 : decode b_m11_testHere 5 = .ok (.imul, 1) := by decide +kernel
theorem d_m11_testHere_6 : decode b_m11_testHere 6 = .ok (.aload_n 0, 1) := by decide +kernel
theorem d_m11_testHere_7 : decode b_m11_testHere 7 = .ok (.getfield 61, 3) := by decide +kernel
theorem d_m11_testHere_10 : decode b_m11_testHere 10 = .ok (.aload_n 0, 1) := by decide +kernel
theorem d_m11_testHere_11 : decode b_m11_testHere 11 = .ok (.getfield 190, 3) := by decide +kernel
theorem d_m11_testHere_14 : decode b_m11_testHere 14 = .ok (.iaload, 1) := by decide +kernel
theorem d_m11_testHere_15 : decode b_m11_testHere 15 = .ok (.iadd, 1) := by decide +kernel
theorem d_m11_testHere_16 : decode b_m11_testHere 16 = .ok (.istore_n 1, 1) := by decide +kernel
theorem d_m11_testHere_17 : decode b_m11_testHere 17 = .ok (.aload_n 0, 1) := by decide +kernel
theorem d_m11_testHere_18 : decode b_m11_testHere 18 = .ok (.getfield 64, 3) := by decide +kernel
theorem d_m11_testHere_21 : decode b_m11_testHere 21 = .ok (.iload_n 1, 1) := by decide +kernel
theorem d_m11_testHere_22 : decode b_m11_testHere 22 = .ok (.aload_n 0, 1) := by decide +kernel
theorem d_m11_testHere_23 : decode b_m11_testHere 23 = .ok (.invokevirtual 193, 3) := by decide +kernel
theorem d_m11_testHere_26 : decode b_m11_testHere 26 = .ok (.iastore, 1) := by decide +kernel
theorem d_m11_testHere_27 : decode b_m11_testHere 27 = .ok (.aload_n 0, 1) := by decide +kernel
theorem d_m11_testHere_28 : decode b_m11_testHere 28 = .ok (.getfield 166, 3) := by decide +kernel
theorem d_m11_testHere_31 : decode b_m11_testHere 31 = .ok (.ifCond .eq 4, 3) := by decide +kernel
theorem d_m11_testHere_34 : decode b_m11_testHere 34 = .ok (.return_, 1) := by decide +kernel
theorem d_m11_testHere_35 : decode b_m11_testHere 35 = .ok (.aload_n 0, 1) := by decide +kernel
theorem d_m11_testHere_36 : decode b_m11_testHere 36 = .ok (.getfield 67, 3) := by decide +kernel
theorem d_m11_testHere_39 : decode b_m11_testHere 39 = .ok (.iload_n 1, 1) := by decide +kernel
theorem d_m11_testHere_40 : decode b_m11_testHere 40 = .ok (.aload_n 0, 1) := by decide +kernel
theorem d_m11_testHere_41 : decode b_m11_testHere 41 = .ok (.invokevirtual 170, 3) := by decide +kernel
theorem d_m11_testHere_44 : decode b_m11_testHere 44 = .ok (.iastore, 1) := by decide +kernel
theorem d_m11_testHere_45 : decode b_m11_testHere 45 = .ok (.aload_n 0, 1) := by decide +kernel
theorem d_m11_testHere_46 : decode b_m11_testHere 46 = .ok (.invokevirtual 170, 3) := by decide +kernel
theorem d_m11_testHere_49 : decode b_m11_testHere 49 = .ok (.bipush 60, 2) := by decide +kernel
theorem d_m11_testHere_51 : decode b_m11_testHere 51 = .ok (.if_icmp .eq 12, 3) := by decide +kernel
theorem d_m11_testHere_54 : decode b_m11_testHere 54 = .ok (.aload_n 0, 1) := by decide +kernel
theorem d_m11_testHere_55 : decode b_m11_testHere 55 = .ok (.invokevirtual 170, 3) := by decide +kernel
theorem d_m11_testHere_58 : decode b_m11_testHere 58 = .ok (.bipush 62, 2) := by decide +kernel
theorem d_m11_testHere_60 : decode b_m11_testHere 60 = .ok (.if_icmp .ne 16, 3) := by decide +kernel
theorem d_m11_testHere_63 : decode b_m11_testHere 63 = .ok (.aload_n 0, 1) := by decide +kernel
theorem d_m11_testHere_64 : decode b_m11_testHere 64 = .ok (.dup, 1) := by decide +kernel
theorem d_m11_testHere_65 : decode b_m11_testHere 65 = .ok (.getfield 163, 3) := by decide +kernel
theorem d_m11_testHere_68 : decode b_m11_testHere 68 = .ok (.iconst 1, 1) := by decide +kernel
theorem d_m11_testHere_69 : decode b_m11_testHere 69 = .ok (.iadd, 1) := by decide +kernel
theorem d_m11_testHere_70 : decode b_m11_testHere 70 = .ok (.putfield 163, 3) := by decide +kernel
theorem d_m11_testHere_73 : decode b_m11_testHere 73 = .ok (.goto 9, 3) := by decide +kernel
theorem d_m11_testHere_76 : decode b_m11_testHere 76 = .ok (.aload_n 0, 1) := by decide +kernel
theorem d_m11_testHere_77 : decode b_m11_testHere 77 = .ok (.bipush 61, 2) := by decide +kernel
theorem d_m11_testHere_79 : decode b_m11_testHere 79 = .ok (.invokevirtual 176, 3) := by decide +kernel
theorem d_m11_testHere_82 : decode b_m11_testHere 82 = .ok (.aload_n 0, 1) := by decide +kernel
theorem d_m11_testHere_83 : decode b_m11_testHere 83 = .ok (.getfield 70, 3) := by decide +kernel
theorem d_m11_testHere_86 : decode b_m11_testHere 86 = .ok (.iload_n 1, 1) := by decide +kernel
theorem d_m11_testHere_87 : decode b_m11_testHere 87 = .ok (.aload_n 0, 1) := by decide +kernel
theorem d_m11_testHere_88 : decode b_m11_testHere 88 = .ok (.invokevirtual 196, 3) := by decide +kernel
theorem d_m11_testHere_91 : decode b_m11_testHere 91 = .ok (.iastore, 1) := by decide +kernel
theorem d_m11_testHere_92 : decode b_m11_testHere 92 = .ok (.aload_n 0, 1) := by decide +kernel
theorem d_m11_testHere_93 : decode b_m11_testHere 93 = .ok (.getfield 61, 3) := by decide +kernel
theorem d_m11_testHere_96 : decode b_m11_testHere 96 = .ok (.aload_n 0, 1) := by decide +kernel
theorem d_m11_testHere_97 : decode b_m11_testHere 97 = .ok (.getfield 190, 3) := by decide +kernel
theorem d_m11_testHere_100 : decode b_m11_testHere 100 = .ok (.dup2, 1) := by decide +kernel
theorem d_m11_testHere_101 : decode b_m11_testHere 101 = .ok (.iaload, 1) := by decide +kernel
theorem d_m11_testHere_102 : decode b_m11_testHere 102 = .ok (.iconst 1, 1) := by decide +kernel
theorem d_m11_testHere_103 : decode b_m11_testHere 103 = .ok (.iadd, 1) := by decide +kernel
theorem d_m11_testHere_104 : decode b_m11_testHere 104 = .ok (.iastore, 1) := by decide +kernel
theorem d_m11_testHere_105 : decode b_m11_testHere 105 = .ok (.return_, 1) := by decide +kernel
def s_m11_testHere_82  (r0 : Nat) (x1 : Int32) (M : Mm) : Option (Unit × Mm) := gR M r0 21 25 (fun v1 => cl (has M r0 21) (s_m11_numberHere r0 M) (fun v2 M3 => sI M3 v1 0 x1 v2 (fun M4 => gR M4 r0 21 22 (fun v5 => gI M4 r0 21 30 (fun v6 => aI M4 v5 0 v6 (fun v7 => sI M4 v5 0 v6 (v7 + (1 : Int32)) (fun M8 => some ((), M8))))))))
def s_m11_testHere_63  (r0 : Nat) (x1 : Int32) (M : Mm) : Option (Unit × Mm) := gI M r0 21 28 (fun v1 => pI M r0 21 28 (v1 + (1 : Int32)) (fun M2 => s_m11_testHere_82 r0 x1 M2))
def s_m11_testHere (r0 : Nat) (M : Mm) : Option (Unit × Mm) := gI M r0 21 30 (fun v1 => gR M r0 21 22 (fun v2 => gI M r0 21 30 (fun v3 => aI M v2 0 v3 (fun v4 => gR M r0 21 23 (fun v5 => cl (has M r0 21) (s_m11_fieldHere r0 M) (fun v6 M7 => sI M7 v5 0 (((3 : Int32) * v1) + v4) v6 (fun M8 => gI M8 r0 21 29 (fun v9 => (if v9 = 0 then gR M8 r0 21 24 (fun v10 => cl (has M8 r0 21) (s_m11_here r0 M8) (fun v11 M12 => sI M12 v10 0 (((3 : Int32) * v1) + v4) v11 (fun M13 => cl (has M13 r0 21) (s_m11_here r0 M13) (fun v14 M15 => (if v14 = (60 : Int32) then s_m11_testHere_63 r0 (((3 : Int32) * v1) + v4) M15 else cl (has M15 r0 21) (s_m11_here r0 M15) (fun v16 M17 => (if ¬ v16 = (62 : Int32) then cl (has M17 r0 21) (s_m11_one r0 (61 : Int32) M17) (fun _ M18 => s_m11_testHere_82 r0 (((3 : Int32) * v1) + v4) M18) else s_m11_testHere_63 r0 (((3 : Int32) * v1) + v4) M17))))))) else some ((), M8))))))))))
set_option maxRecDepth 100000 in
set_option maxHeartbeats 4000000 in
theorem w_m11_testHere_82 {V : Ev} {C : Cx} {n0 : Nat} (hC : Cok V C y_m11_testHere.cls b_m11_testHere 2 n0 none y_m11_testHere.name) (hR : cR C = rm_m11_testHere)  : ∀ (r0 : Nat) (x1 : Int32) (M : Mm), Sm V C 2 n0 n0 (qV V C) 82 [(0, rv V.1 r0), (1, .int x1)] [] M (s_m11_testHere_82 r0 x1 M) := by
  intro r0 x1 M
  unfold s_m11_testHere_82
  refine Sm.aload_n hC d_m11_testHere_82 rfl 0 rfl ?_
  refine Sm.getR hC fl_m11_70 rfl d_m11_testHere_83 (fun v1 => ?_)
  refine Sm.iload_n hC d_m11_testHere_86 rfl 1 rfl ?_
  refine Sm.aload_n hC d_m11_testHere_87 rfl 0 rfl ?_
  refine Sm.callVi 11 (As := []) (st := [.int x1, rv V.1 v1]) hC hR cw_m11_numberHere (tw_i 1114 (by decide +kernel)) (tw_i 1116 (by decide +kernel)) (tw_i 31 (by decide +kernel)) ⟨_, rfl, rfl⟩ (fun r9 M9 h9 => ok_m11_numberHere h9) rfl rfl (RW.of ⟨rfl, rfl, by decide, by decide⟩) (by simp) d_m11_testHere_88 (fun v2 M3 => ?_)
  refine Sm.iast hC d_m11_testHere_91 (fun M4 => ?_)
  refine Sm.aload_n hC d_m11_testHere_92 rfl 0 rfl ?_
  refine Sm.getR hC fl_m11_61 rfl d_m11_testHere_93 (fun v5 => ?_)
  refine Sm.aload_n hC d_m11_testHere_96 rfl 0 rfl ?_
  refine Sm.getI hC fl_m11_190 rfl d_m11_testHere_97 (fun v6 => ?_)
  refine Sm.dup2 hC d_m11_testHere_100 rfl (cat_rv _ _) ?_
  refine Sm.iald hC d_m11_testHere_101 (fun v7 => ?_)
  refine Sm.iconst (v := 1) hC d_m11_testHere_102 (by decide) ?_
  refine Sm.iadd hC d_m11_testHere_103 ?_
  refine Sm.iast hC d_m11_testHere_104 (fun M8 => ?_)
  exact Sm.vret hC d_m11_testHere_105 rfl (Nat.sub_self _)
set_option maxRecDepth 100000 in
set_option maxHeartbeats 4000000 in
theorem w_m11_testHere_63 {V : Ev} {C : Cx} {n0 : Nat} (hC : Cok V C y_m11_testHere.cls b_m11_testHere 2 n0 none y_m11_testHere.name) (hR : cR C = rm_m11_testHere)  : ∀ (r0 : Nat) (x1 : Int32) (M : Mm), Sm V C 2 n0 n0 (qV V C) 63 [(0, rv V.1 r0), (1, .int x1)] [] M (s_m11_testHere_63 r0 x1 M) := by
  intro r0 x1 M
  unfold s_m11_testHere_63
  refine Sm.aload_n hC d_m11_testHere_63 rfl 0 rfl ?_
  refine Sm.dup hC d_m11_testHere_64 (cat_rv _ _) ?_
  refine Sm.getI hC fl_m11_163 rfl d_m11_testHere_65 (fun v1 => ?_)
  refine Sm.iconst (v := 1) hC d_m11_testHere_68 (by decide) ?_
  refine Sm.iadd hC d_m11_testHere_69 ?_
  refine Sm.putI hC fl_m11_163 rfl d_m11_testHere_70 (fun M2 => ?_)
  refine Sm.goto (tgt := 82) hC d_m11_testHere_73 (by decide) ?_
  exact w_m11_testHere_82 hC hR r0 x1 M2
set_option maxRecDepth 100000 in
set_option maxHeartbeats 4000000 in
theorem ok_m11_testHere {l : Launch} {V : Ev} {M M' : Mm} {r : Unit} {r0 : Nat} (h : s_m11_testHere r0 M = some (r, M')) : Met l y_m11_testHere (Cond.code y_m11_testHere b_m11_testHere 2 none :: TW) rm_m11_testHere (va_Pc [rv V.1 r0] (Wd V M)) (QC V none M' 0) 0 0 (Af V) := by
  refine met_of (fun _ : Unit => none) (lv0 := [(0, rv V.1 r0)]) (by decide) (by simp [lg_sl, cat_rv, cat_i, cat_l, cat_f]) (by simp [lv_args, cat_rv, cat_i, cat_l, cat_f]) (fun C hl hR hC => ?_) h
  subst hl
  generalize mN M = n0 at hC ⊢
  unfold s_m11_testHere
  refine Sm.iconst (v := 3) hC d_m11_testHere_0 (by decide) ?_
  refine Sm.aload_n hC d_m11_testHere_1 rfl 0 rfl ?_
  refine Sm.getI hC fl_m11_190 rfl d_m11_testHere_2 (fun v1 => ?_)
  refine Sm.imul hC d_m11_testHere_5 ?_
  refine Sm.aload_n hC d_m11_testHere_6 rfl 0 rfl ?_
  refine Sm.getR hC fl_m11_61 rfl d_m11_testHere_7 (fun v2 => ?_)
  refine Sm.aload_n hC d_m11_testHere_10 rfl 0 rfl ?_
  refine Sm.getI hC fl_m11_190 rfl d_m11_testHere_11 (fun v3 => ?_)
  refine Sm.iald hC d_m11_testHere_14 (fun v4 => ?_)
  refine Sm.iadd hC d_m11_testHere_15 ?_
  refine Sm.istore_n (i := 1) (lv' := [(1, .int (((3 : Int32) * v1) + v4)), (0, rv V.1 r0)]) hC d_m11_testHere_16 rfl (by decide) (by simp [cat_rv, cat_i, cat_l, cat_f]) ?_
  refine Sm.aload_n hC d_m11_testHere_17 rfl 1 rfl ?_
  refine Sm.getR hC fl_m11_64 rfl d_m11_testHere_18 (fun v5 => ?_)
  refine Sm.iload_n hC d_m11_testHere_21 rfl 0 rfl ?_
  refine Sm.aload_n hC d_m11_testHere_22 rfl 1 rfl ?_
  refine Sm.callVi 11 (As := []) (st := [.int (((3 : Int32) * v1) + v4), rv V.1 v5]) hC hR cw_m11_fieldHere (tw_i 1122 (by decide +kernel)) (tw_i 1124 (by decide +kernel)) (tw_i 33 (by decide +kernel)) ⟨_, rfl, rfl⟩ (fun r9 M9 h9 => ok_m11_fieldHere h9) rfl rfl (RW.of ⟨rfl, rfl, by decide, by decide⟩) (by simp) d_m11_testHere_23 (fun v6 M7 => ?_)
  refine Sm.iast hC d_m11_testHere_26 (fun M8 => ?_)
  refine Sm.aload_n hC d_m11_testHere_27 rfl 1 rfl ?_
  refine Sm.getI hC fl_m11_166 rfl d_m11_testHere_28 (fun v9 => ?_)
  refine Sm.if_eq (tgt := 35) hC d_m11_testHere_31 (by decide) ?_ ?_
  · refine Sm.aload_n hC d_m11_testHere_35 rfl 1 rfl ?_
    refine Sm.getR hC fl_m11_67 rfl d_m11_testHere_36 (fun v10 => ?_)
    refine Sm.iload_n hC d_m11_testHere_39 rfl 0 rfl ?_
    refine Sm.aload_n hC d_m11_testHere_40 rfl 1 rfl ?_
    refine Sm.callVi 11 (As := []) (st := [.int (((3 : Int32) * v1) + v4), rv V.1 v10]) hC hR cw_m11_here (tw_i 1097 (by decide +kernel)) (tw_i 1099 (by decide +kernel)) (tw_i 28 (by decide +kernel)) ⟨_, rfl, rfl⟩ (fun r9 M9 h9 => ok_m11_here h9) rfl rfl (RW.of ⟨rfl, rfl, by decide, by decide⟩) (by simp) d_m11_testHere_41 (fun v11 M12 => ?_)
    refine Sm.iast hC d_m11_testHere_44 (fun M13 => ?_)
    refine Sm.aload_n hC d_m11_testHere_45 rfl 1 rfl ?_
    refine Sm.callVi 11 (As := []) (st := []) hC hR cw_m11_here (tw_i 1097 (by decide +kernel)) (tw_i 1099 (by decide +kernel)) (tw_i 28 (by decide +kernel)) ⟨_, rfl, rfl⟩ (fun r9 M9 h9 => ok_m11_here h9) rfl rfl (RW.of ⟨rfl, rfl, by decide, by decide⟩) (by simp) d_m11_testHere_46 (fun v14 M15 => ?_)
    refine Sm.bipush (v := 60) hC d_m11_testHere_49 (by decide) ?_
    refine Sm.icmp_eq (tgt := 63) hC d_m11_testHere_51 (by decide) ?_ ?_
    · refine Sm.sub [1, 0] rfl ?_
      exact w_m11_testHere_63 hC hR r0 (((3 : Int32) * v1) + v4) M15
    · refine Sm.aload_n hC d_m11_testHere_54 rfl 1 rfl ?_
      refine Sm.callVi 11 (As := []) (st := []) hC hR cw_m11_here (tw_i 1097 (by decide +kernel)) (tw_i 1099 (by decide +kernel)) (tw_i 28 (by decide +kernel)) ⟨_, rfl, rfl⟩ (fun r9 M9 h9 => ok_m11_here h9) rfl rfl (RW.of ⟨rfl, rfl, by decide, by decide⟩) (by simp) d_m11_testHere_55 (fun v16 M17 => ?_)
      refine Sm.bipush (v := 62) hC d_m11_testHere_58 (by decide) ?_
      refine Sm.icmp_ne (tgt := 76) hC d_m11_testHere_60 (by decide) ?_ ?_
      · refine Sm.aload_n hC d_m11_testHere_76 rfl 1 rfl ?_
        refine Sm.bipush (v := 61) hC d_m11_testHere_77 (by decide) ?_
        refine Sm.callVv 11 (As := [.int (61 : Int32)]) (st := []) hC hR cw_m11_one (tw_i 1110 (by decide +kernel)) (tw_i 1112 (by decide +kernel)) (tw_i 30 (by decide +kernel)) ⟨_, rfl, rfl⟩ (fun r9 M9 h9 => ok_m11_one h9) rfl rfl (RW.of ⟨rfl, rfl, by decide, by decide⟩) (by simp) d_m11_testHere_79 (fun _ M18 => ?_)
        refine Sm.sub [1, 0] rfl ?_
        exact w_m11_testHere_82 hC hR r0 (((3 : Int32) * v1) + v4) M18
      · refine Sm.sub [1, 0] rfl ?_
        exact w_m11_testHere_63 hC hR r0 (((3 : Int32) * v1) + v4) M17
  · exact Sm.vret hC d_m11_testHere_34 rfl (Nat.sub_self _)
/-! NewsWireModel.readRule()V -/
theorem fl_m11_199 : FL "NewsWireModel" 199 11 17 0 false .int := ⟨_, _, _, _, rfl, in_c11, ty_c11, nm_c11, by decide, rfl, tw_i 882 (by decide +kernel), rfl, rfl, rfl, rfl⟩
theorem fl_m11_49 : FL "NewsWireModel" 49 11 18 2 true (.array .int) := ⟨_, _, _, _, rfl, in_c11, ty_c11, nm_c11, by decide, rfl, tw_i 883 (by decide +kernel), rfl, rfl, rfl, rfl⟩
theorem fl_m11_52 : FL "NewsWireModel" 52 11 19 2 true (.array .int) := ⟨_, _, _, _, rfl, in_c11, ty_c11, nm_c11, by decide, rfl, tw_i 884 (by decide +kernel), rfl, rfl, rfl, rfl⟩
abbrev b_m11_readRule : ByteArray := prog_13_method_24_code
def y_m11_readRule : MethodName := ⟨"NewsWireModel", "readRule", "()V"⟩
def rm_m11_readRule : Room := { frames := 6, cells := 0, slots := 0, locals := 166 }
theorem cw_m11_readRule : CW y_m11_readRule b_m11_readRule 1 none 0 := ⟨tw_i 66 (by decide +kernel), tw_i 1092 (by decide +kernel), by decide, by decide, by decide +kernel⟩
theorem d_m11_readRule_0 : decode b_m11_readRule 0 = .ok (.aload_n 0, 1) := by decide +kernel
theorem d_m11_readRule_1 : decode b_m11_readRule 1 = .ok (.iconst 0, 1) := by decide +kernel
theorem d_m11_readRule_2 : decode b_m11_readRule 2 = .ok (.putfield 163, 3) := by decide +kernel
theorem d_m11_readRule_5 : decode b_m11_readRule 5 = .ok (.aload_n 0, 1) := by decide +kernel
theorem d_m11_readRule_6 : decode b_m11_readRule 6 = .ok (.iconst 0, 1) := by decide +kernel
theorem d_m11_readRule_7 : decode b_m11_readRule 7 = .ok (.putfield 166, 3) := by decide +kernel
theorem d_m11_readRule_10 : decode b_m11_readRule 10 = .ok (.aload_n 0, 1) := by decide +kernel
theorem d_m11_readRule_11 : decode b_m11_readRule 11 = .ok (.aload_n 0, 1) := by decide +kernel
theorem d_m11_readRule_12 : decode b_m11_readRule 12 = .ok (.getfield 199, 3) := by decide +kernel
theorem d_m11_readRule_15 : decode b_m11_readRule 15 = .ok (.putfield 190, 3) := by decide +kernel
theorem d_m11_readRule_18 : decode b_m11_readRule 18 = .ok (.aload_n 0, 1) := by decide +kernel
theorem d_m11_readRule_19 : decode b_m11_readRule 19 = .ok (.getfield 61, 3) := by decide +kernel
theorem d_m11_readRule_22 : decode b_m11_readRule 22 = .ok (.aload_n 0, 1) := by decide +kernel
theorem d_m11_readRule_23 : decode b_m11_readRule 23 = .ok (.getfield 190, 3) := by decide +kernel
theorem d_m11_readRule_26 : decode b_m11_readRule 26 = .ok (.iconst 0, 1) := by decide +kernel
theorem d_m11_readRule_27 : decode b_m11_readRule 27 = .ok (.iastore, 1) := by decide +kernel
theorem d_m11_readRule_28 : decode b_m11_readRule 28 = .ok (.aload_n 0, 1) := by decide +kernel
theorem d_m11_readRule_29 : decode b_m11_readRule 29 = .ok (.getfield 49, 3) := by decide +kernel
theorem d_m11_readRule_32 : decode b_m11_readRule 32 = .ok (.aload_n 0, 1) := by decide +kernel
theorem d_m11_readRule_33 : decode b_m11_readRule 33 = .ok (.getfield 190, 3) := by decide +kernel
theorem d_m11_readRule_36 : decode b_m11_readRule 36 = .ok (.aload_n 0, 1) := by decide +kernel
theorem d_m11_readRule_37 : decode b_m11_readRule 37 = .ok (.invokevirtual 202, 3) := by decide +kernel
theorem d_m11_readRule_40 : decode b_m11_readRule 40 = .ok (.iastore, 1) := by decide +kernel
theorem d_m11_readRule_41 : decode b_m11_readRule 41 = .ok (.aload_n 0, 1) := by decide +kernel
theorem d_m11_readRule_42 : decode b_m11_readRule 42 = .ok (.bipush 32, 2) := by decide +kernel
theorem d_m11_readRule_44 : decode b_m11_readRule 44 = .ok (.invokevirtual 176, 3) := by decide +kernel
theorem d_m11_readRule_47 : decode b_m11_readRule 47 = .ok (.aload_n 0, 1) := by decide +kernel
theorem d_m11_readRule_48 : decode b_m11_readRule 48 = .ok (.getfield 52, 3) := by decide +kernel
theorem d_m11_readRule_51 : decode b_m11_readRule 51 = .ok (.aload_n 0, 1) := by decide +kernel
theorem d_m11_readRule_52 : decode b_m11_readRule 52 = .ok (.getfield 190, 3) := by decide +kernel
theorem d_m11_readRule_55 : decode b_m11_readRule 55 = .ok (.aload_n 0, 1) := by decide +kernel
theorem d_m11_readRule_56 : decode b_m11_readRule 56 = .ok (.invokevirtual 196, 3) := by decide +kernel
theorem d_m11_readRule_59 : decode b_m11_readRule 59 = .ok (.iastore, 1) := by decide +kernel
theorem d_m11_readRule_60 : decode b_m11_readRule 60 = .ok (.aload_n 0, 1) := by decide +kernel
theorem d_m11_readRule_61 : decode b_m11_readRule 61 = .ok (.getfield 166, 3) := by decide +kernel
theorem d_m11_readRule_64 : decode b_m11_readRule 64 = .ok (.ifCond .ne 91, 3) := by decide +kernel
theorem d_m11_readRule_67 : decode b_m11_readRule 67 = .ok (.aload_n 0, 1) := by decide +kernel
theorem d_m11_readRule_68 : decode b_m11_readRule 68 = .ok (.getfield 163, 3) := by decide +kernel
theorem d_m11_readRule_71 : decode b_m11_readRule 71 = .ok (.aload_n 0, 1) := by decide +kernel
theorem d_m11_readRule_72 : decode b_m11_readRule 72 = .ok (.getfield 160, 3) := by decide +kernel
theorem d_m11_readRule_75 : decode b_m11_readRule 75 = .ok (.if_icmp .ge 80, 3) := by decide +kernel
theorem d_m11_readRule_78 : decode b_m11_readRule 78 = .ok (.aload_n 0, 1) := by decide +kernel
theorem d_m11_readRule_79 : decode b_m11_readRule 79 = .ok (.getfield 61, 3) := by decide +kernel
theorem d_m11_readRule_82 : decode b_m11_readRule 82 = .ok (.aload_n 0, 1) := by decide +kernel
theorem d_m11_readRule_83 : decode b_m11_readRule 83 = .ok (.getfield 190, 3) := by decide +kernel
theorem d_m11_readRule_86 : decode b_m11_readRule 86 = .ok (.iaload, 1) := by decide +kernel
theorem d_m11_readRule_87 : decode b_m11_readRule 87 = .ok (.iconst 3, 1) := by decide +kernel
theorem d_m11_readRule_88 : decode b_m11_readRule 88 = .ok (.if_icmp .ne 9, 3) := by decide +kernel
theorem d_m11_readRule_91 : decode b_m11_readRule 91 = .ok (.aload_n 0, 1) := by decide +kernel
theorem d_m11_readRule_92 : decode b_m11_readRule 92 = .ok (.iconst 1, 1) := by decide +kernel
theorem d_m11_readRule_93 : decode b_m11_readRule 93 = .ok (.putfield 166, 3) := by decide +kernel
theorem d_m11_readRule_96 : decode b_m11_readRule 96 = .ok (.return_, 1) := by decide +kernel
theorem d_m11_readRule_97 : decode b_m11_readRule 97 = .ok (.aload_n 0, 1) := by decide +kernel
theorem d_m11_readRule_98 : decode b_m11_readRule 98 = .ok (.aload_n 0, 1) := by decide +kernel
theorem d_m11_readRule_99 : decode b_m11_readRule 99 = .ok (.getfield 61, 3) := by decide +kernel
theorem d_m11_readRule_102 : decode b_m11_readRule 102 = .ok (.aload_n 0, 1) := by decide +kernel
theorem d_m11_readRule_103 : decode b_m11_readRule 103 = .ok (.getfield 190, 3) := by decide +kernel
theorem d_m11_readRule_106 : decode b_m11_readRule 106 = .ok (.iaload, 1) := by decide +kernel
theorem d_m11_readRule_107 : decode b_m11_readRule 107 = .ok (.ifCond .ne 19, 3) := by decide +kernel
theorem d_m11_readRule_110 : decode b_m11_readRule 110 = .ok (.iconst 0, 1) := by decide +kernel
theorem d_m11_readRule_111 : decode b_m11_readRule 111 = .ok (.iconst 0, 1) := by decide +kernel
theorem d_m11_readRule_112 : decode b_m11_readRule 112 = .ok (.bipush 27, 2) := by decide +kernel
theorem d_m11_readRule_114 : decode b_m11_readRule 114 = .ok (.bipush 9, 2) := by decide +kernel
theorem d_m11_readRule_116 : decode b_m11_readRule 116 = .ok (.bipush 6, 2) := by decide +kernel
theorem d_m11_readRule_118 : decode b_m11_readRule 118 = .ok (.bipush 27, 2) := by decide +kernel
theorem d_m11_readRule_120 : decode b_m11_readRule 120 = .ok (.invokestatic 182, 3) := by decide +kernel
theorem d_m11_readRule_123 : decode b_m11_readRule 123 = .ok (.goto 15, 3) := by decide +kernel
theorem d_m11_readRule_126 : decode b_m11_readRule 126 = .ok (.iconst 0, 1) := by decide +kernel
theorem d_m11_readRule_127 : decode b_m11_readRule 127 = .ok (.bipush 27, 2) := by decide +kernel
theorem d_m11_readRule_129 : decode b_m11_readRule 129 = .ok (.iconst 1, 1) := by decide +kernel
theorem d_m11_readRule_130 : decode b_m11_readRule 130 = .ok (.bipush 14, 2) := by decide +kernel
theorem d_m11_readRule_132 : decode b_m11_readRule 132 = .ok (.iconst 4, 1) := by decide +kernel
theorem d_m11_readRule_133 : decode b_m11_readRule 133 = .ok (.bipush 27, 2) := by decide +kernel
theorem d_m11_readRule_135 : decode b_m11_readRule 135 = .ok (.invokestatic 182, 3) := by decide +kernel
theorem d_m11_readRule_138 : decode b_m11_readRule 138 = .ok (.invokevirtual 186, 3) := by decide +kernel
theorem d_m11_readRule_141 : decode b_m11_readRule 141 = .ok (.aload_n 0, 1) := by decide +kernel
theorem d_m11_readRule_142 : decode b_m11_readRule 142 = .ok (.getfield 166, 3) := by decide +kernel
theorem d_m11_readRule_145 : decode b_m11_readRule 145 = .ok (.ifCond .ne (-85), 3) := by decide +kernel
theorem d_m11_readRule_148 : decode b_m11_readRule 148 = .ok (.aload_n 0, 1) := by decide +kernel
theorem d_m11_readRule_149 : decode b_m11_readRule 149 = .ok (.invokevirtual 205, 3) := by decide +kernel
theorem d_m11_readRule_152 : decode b_m11_readRule 152 = .ok (.goto (-92), 3) := by decide +kernel
theorem d_m11_readRule_155 : decode b_m11_readRule 155 = .ok (.return_, 1) := by decide +kernel
def s_m11_readRule_155   (M : Mm) : Option (Unit × Mm) := some ((), M)
def s_m11_readRule_138 (k60 : Nat → Mm → Option (Unit × Mm)) (r0 : Nat) (t0 : Nat) (t1 : Int64) (M : Mm) : Option (Unit × Mm) := cl (has M t0 21) (s_m11_letters t0 t1 M) (fun _ M1 => gI M1 r0 21 29 (fun v2 => (if ¬ v2 = 0 then k60 r0 M1 else cl (has M1 r0 21) (s_m11_testHere r0 M1) (fun _ M3 => k60 r0 M3))))
def s_m11_readRule_60  : Nat → Nat → Mm → Option (Unit × Mm)
  | 0, _, _ => none
  | n + 1, r0, M => gI M r0 21 29 (fun v1 => (if ¬ v1 = 0 then s_m11_readRule_155 M else gI M r0 21 28 (fun v2 => gI M r0 21 26 (fun v3 => (if v3 ≤ v2 then s_m11_readRule_155 M else gR M r0 21 22 (fun v4 => gI M r0 21 30 (fun v5 => aI M v4 0 v5 (fun v6 => (if ¬ v6 = (3 : Int32) then gR M r0 21 22 (fun v7 => gI M r0 21 30 (fun v8 => aI M v7 0 v8 (fun v9 => (if ¬ v9 = 0 then cl true (s_m11_named (0 : Int32) (27 : Int32) (1 : Int32) (14 : Int32) (4 : Int32) (27 : Int32) M) (fun v10 M11 => s_m11_readRule_138 (s_m11_readRule_60 n) r0 r0 v10 M11) else cl true (s_m11_named (0 : Int32) (0 : Int32) (27 : Int32) (9 : Int32) (6 : Int32) (27 : Int32) M) (fun v12 M13 => s_m11_readRule_138 (s_m11_readRule_60 n) r0 r0 v12 M13))))) else pZ M r0 21 29 (1 : Int32) (fun M14 => some ((), M14)))))))))))
def s_m11_readRule (r0 : Nat) (M : Mm) : Option (Unit × Mm) := pI M r0 21 28 (0 : Int32) (fun M1 => pZ M1 r0 21 29 (0 : Int32) (fun M2 => gI M2 r0 21 17 (fun v3 => pI M2 r0 21 30 v3 (fun M4 => gR M4 r0 21 22 (fun v5 => gI M4 r0 21 30 (fun v6 => sI M4 v5 0 v6 (0 : Int32) (fun M7 => gR M7 r0 21 18 (fun v8 => gI M7 r0 21 30 (fun v9 => cl (has M7 r0 21) (s_m11_keyHere r0 M7) (fun v10 M11 => sI M11 v8 0 v9 v10 (fun M12 => cl (has M12 r0 21) (s_m11_one r0 (32 : Int32) M12) (fun _ M13 => gR M13 r0 21 19 (fun v14 => gI M13 r0 21 30 (fun v15 => cl (has M13 r0 21) (s_m11_numberHere r0 M13) (fun v16 M17 => sI M17 v14 0 v15 v16 (fun M18 => s_m11_readRule_60 FU r0 M18))))))))))))))))
set_option maxRecDepth 100000 in
set_option maxHeartbeats 4000000 in
theorem w_m11_readRule_155 {V : Ev} {C : Cx} {n0 : Nat} (hC : Cok V C y_m11_readRule.cls b_m11_readRule 1 n0 none y_m11_readRule.name) (hR : cR C = rm_m11_readRule)  : ∀  (M : Mm), Sm V C 1 n0 n0 (qV V C) 155 [] [] M (s_m11_readRule_155 M) := by
  intro M
  unfold s_m11_readRule_155
  exact Sm.vret hC d_m11_readRule_155 rfl (Nat.sub_self _)
set_option maxRecDepth 100000 in
set_option maxHeartbeats 4000000 in
theorem w_m11_readRule_138 {V : Ev} {C : Cx} {n0 : Nat} (hC : Cok V C y_m11_readRule.cls b_m11_readRule 1 n0 none y_m11_readRule.name) (hR : cR C = rm_m11_readRule) (k60 : Nat → Mm → Option (Unit × Mm)) (hk60 : ∀ (r0 : Nat) (M : Mm), Sm V C 1 n0 n0 (qV V C) 60 [(0, rv V.1 r0)] [] M (k60 r0 M)) : ∀ (r0 : Nat) (t0 : Nat) (t1 : Int64) (M : Mm), Sm V C 1 n0 n0 (qV V C) 138 [(0, rv V.1 r0)] [.long t1, rv V.1 t0] M (s_m11_readRule_138 k60 r0 t0 t1 M) := by
  intro r0 t0 t1 M
  unfold s_m11_readRule_138
  refine Sm.callVv 11 (As := [.long t1]) (st := []) hC hR cw_m11_letters (tw_i 1105 (by decide +kernel)) (tw_i 1107 (by decide +kernel)) (tw_i 29 (by decide +kernel)) ⟨_, rfl, rfl⟩ (fun r9 M9 h9 => ok_m11_letters h9) rfl rfl (RW.of ⟨rfl, rfl, by decide, by decide⟩) (by simp) d_m11_readRule_138 (fun _ M1 => ?_)
  refine Sm.aload_n hC d_m11_readRule_141 rfl 0 rfl ?_
  refine Sm.getI hC fl_m11_166 rfl d_m11_readRule_142 (fun v2 => ?_)
  refine Sm.if_ne (tgt := 60) hC d_m11_readRule_145 (by decide) ?_ ?_
  · exact hk60 r0 M1
  · refine Sm.aload_n hC d_m11_readRule_148 rfl 0 rfl ?_
    refine Sm.callVv 11 (As := []) (st := []) hC hR cw_m11_testHere (tw_i 1118 (by decide +kernel)) (tw_i 1120 (by decide +kernel)) (tw_i 32 (by decide +kernel)) ⟨_, rfl, rfl⟩ (fun r9 M9 h9 => ok_m11_testHere h9) rfl rfl (RW.of ⟨rfl, rfl, by decide, by decide⟩) (by simp) d_m11_readRule_149 (fun _ M3 => ?_)
    refine Sm.goto (tgt := 60) hC d_m11_readRule_152 (by decide) ?_
    exact hk60 r0 M3
set_option maxRecDepth 100000 in
set_option maxHeartbeats 4000000 in
theorem w_m11_readRule_60 {V : Ev} {C : Cx} {n0 : Nat} (hC : Cok V C y_m11_readRule.cls b_m11_readRule 1 n0 none y_m11_readRule.name) (hR : cR C = rm_m11_readRule)  : ∀ (n : Nat) (r0 : Nat) (M : Mm), Sm V C 1 n0 n0 (qV V C) 60 [(0, rv V.1 r0)] [] M (s_m11_readRule_60 n r0 M) := by
  intro n
  induction n with
  | zero => exact fun r0 M => Sm.none_
  | succ n ih =>
    intro r0 M
    unfold s_m11_readRule_60
    refine Sm.aload_n hC d_m11_readRule_60 rfl 0 rfl ?_
    refine Sm.getI hC fl_m11_166 rfl d_m11_readRule_61 (fun v1 => ?_)
    refine Sm.if_ne (tgt := 155) hC d_m11_readRule_64 (by decide) ?_ ?_
    · refine Sm.sub [] rfl ?_
      exact w_m11_readRule_155 hC hR M
    · refine Sm.aload_n hC d_m11_readRule_67 rfl 0 rfl ?_
      refine Sm.getI hC fl_m11_163 rfl d_m11_readRule_68 (fun v2 => ?_)
      refine Sm.aload_n hC d_m11_readRule_71 rfl 0 rfl ?_
      refine Sm.getI hC fl_m11_160 rfl d_m11_readRule_72 (fun v3 => ?_)
      refine Sm.icmp_ge (tgt := 155) hC d_m11_readRule_75 (by decide) ?_ ?_
      · refine Sm.sub [] rfl ?_
        exact w_m11_readRule_155 hC hR M
      · refine Sm.aload_n hC d_m11_readRule_78 rfl 0 rfl ?_
        refine Sm.getR hC fl_m11_61 rfl d_m11_readRule_79 (fun v4 => ?_)
        refine Sm.aload_n hC d_m11_readRule_82 rfl 0 rfl ?_
        refine Sm.getI hC fl_m11_190 rfl d_m11_readRule_83 (fun v5 => ?_)
        refine Sm.iald hC d_m11_readRule_86 (fun v6 => ?_)
        refine Sm.iconst (v := 3) hC d_m11_readRule_87 (by decide) ?_
        refine Sm.icmp_ne (tgt := 97) hC d_m11_readRule_88 (by decide) ?_ ?_
        · refine Sm.aload_n hC d_m11_readRule_97 rfl 0 rfl ?_
          refine Sm.aload_n hC d_m11_readRule_98 rfl 0 rfl ?_
          refine Sm.getR hC fl_m11_61 rfl d_m11_readRule_99 (fun v7 => ?_)
          refine Sm.aload_n hC d_m11_readRule_102 rfl 0 rfl ?_
          refine Sm.getI hC fl_m11_190 rfl d_m11_readRule_103 (fun v8 => ?_)
          refine Sm.iald hC d_m11_readRule_106 (fun v9 => ?_)
          refine Sm.if_ne (tgt := 126) hC d_m11_readRule_107 (by decide) ?_ ?_
          · refine Sm.iconst (v := 0) hC d_m11_readRule_126 (by decide) ?_
            refine Sm.bipush (v := 27) hC d_m11_readRule_127 (by decide) ?_
            refine Sm.iconst (v := 1) hC d_m11_readRule_129 (by decide) ?_
            refine Sm.bipush (v := 14) hC d_m11_readRule_130 (by decide) ?_
            refine Sm.iconst (v := 4) hC d_m11_readRule_132 (by decide) ?_
            refine Sm.bipush (v := 27) hC d_m11_readRule_133 (by decide) ?_
            refine Sm.callSl (As := [.int (0 : Int32), .int (27 : Int32), .int (1 : Int32), .int (14 : Int32), .int (4 : Int32), .int (27 : Int32)]) (st := [rv V.1 r0]) hC hR cw_m11_named (tw_i 1101 (by decide +kernel)) (tw_i 1102 (by decide +kernel)) (fun r9 M9 h9 => ok_m11_named h9) rfl rfl (RW.of ⟨rfl, rfl, by decide, by decide⟩) (by simp) d_m11_readRule_135 (fun v10 M11 => ?_)
            exact w_m11_readRule_138 hC hR (s_m11_readRule_60 n) ih r0 r0 v10 M11
          · refine Sm.iconst (v := 0) hC d_m11_readRule_110 (by decide) ?_
            refine Sm.iconst (v := 0) hC d_m11_readRule_111 (by decide) ?_
            refine Sm.bipush (v := 27) hC d_m11_readRule_112 (by decide) ?_
            refine Sm.bipush (v := 9) hC d_m11_readRule_114 (by decide) ?_
            refine Sm.bipush (v := 6) hC d_m11_readRule_116 (by decide) ?_
            refine Sm.bipush (v := 27) hC d_m11_readRule_118 (by decide) ?_
            refine Sm.callSl (As := [.int (0 : Int32), .int (0 : Int32), .int (27 : Int32), .int (9 : Int32), .int (6 : Int32), .int (27 : Int32)]) (st := [rv V.1 r0]) hC hR cw_m11_named (tw_i 1101 (by decide +kernel)) (tw_i 1102 (by decide +kernel)) (fun r9 M9 h9 => ok_m11_named h9) rfl rfl (RW.of ⟨rfl, rfl, by decide, by decide⟩) (by simp) d_m11_readRule_120 (fun v12 M13 => ?_)
            refine Sm.goto (tgt := 138) hC d_m11_readRule_123 (by decide) ?_
            exact w_m11_readRule_138 hC hR (s_m11_readRule_60 n) ih r0 r0 v12 M13
        · refine Sm.aload_n hC d_m11_readRule_91 rfl 0 rfl ?_
          refine Sm.iconst (v := 1) hC d_m11_readRule_92 (by decide) ?_
          refine Sm.putZ hC fl_m11_166 rfl d_m11_readRule_93 (fun M14 => ?_)
          exact Sm.vret hC d_m11_readRule_96 rfl (Nat.sub_self _)
set_option maxRecDepth 100000 in
set_option maxHeartbeats 4000000 in
theorem ok_m11_readRule {l : Launch} {V : Ev} {M M' : Mm} {r : Unit} {r0 : Nat} (h : s_m11_readRule r0 M = some (r, M')) : Met l y_m11_readRule (Cond.code y_m11_readRule b_m11_readRule 1 none :: TW) rm_m11_readRule (va_Pc [rv V.1 r0] (Wd V M)) (QC V none M' 0) 0 0 (Af V) := by
  refine met_of (fun _ : Unit => none) (lv0 := [(0, rv V.1 r0)]) (by decide) (by simp [lg_sl, cat_rv, cat_i, cat_l, cat_f]) (by simp [lv_args, cat_rv, cat_i, cat_l, cat_f]) (fun C hl hR hC => ?_) h
  subst hl
  generalize mN M = n0 at hC ⊢
  unfold s_m11_readRule
  refine Sm.aload_n hC d_m11_readRule_0 rfl 0 rfl ?_
  refine Sm.iconst (v := 0) hC d_m11_readRule_1 (by decide) ?_
  refine Sm.putI hC fl_m11_163 rfl d_m11_readRule_2 (fun M1 => ?_)
  refine Sm.aload_n hC d_m11_readRule_5 rfl 0 rfl ?_
  refine Sm.iconst (v := 0) hC d_m11_readRule_6 (by decide) ?_
  refine Sm.putZ hC fl_m11_166 rfl d_m11_readRule_7 (fun M2 => ?_)
  refine Sm.aload_n hC d_m11_readRule_10 rfl 0 rfl ?_
  refine Sm.aload_n hC d_m11_readRule_11 rfl 0 rfl ?_
  refine Sm.getI hC fl_m11_199 rfl d_m11_readRule_12 (fun v3 => ?_)
  refine Sm.putI hC fl_m11_190 rfl d_m11_readRule_15 (fun M4 => ?_)
  refine Sm.aload_n hC d_m11_readRule_18 rfl 0 rfl ?_
  refine Sm.getR hC fl_m11_61 rfl d_m11_readRule_19 (fun v5 => ?_)
  refine Sm.aload_n hC d_m11_readRule_22 rfl 0 rfl ?_
  refine Sm.getI hC fl_m11_190 rfl d_m11_readRule_23 (fun v6 => ?_)
  refine Sm.iconst (v := 0) hC d_m11_readRule_26 (by decide) ?_
  refine Sm.iast hC d_m11_readRule_27 (fun M7 => ?_)
  refine Sm.aload_n hC d_m11_readRule_28 rfl 0 rfl ?_
  refine Sm.getR hC fl_m11_49 rfl d_m11_readRule_29 (fun v8 => ?_)
  refine Sm.aload_n hC d_m11_readRule_32 rfl 0 rfl ?_
  refine Sm.getI hC fl_m11_190 rfl d_m11_readRule_33 (fun v9 => ?_)
  refine Sm.aload_n hC d_m11_readRule_36 rfl 0 rfl ?_
  refine Sm.callVi 11 (As := []) (st := [.int v9, rv V.1 v8]) hC hR cw_m11_keyHere (tw_i 1093 (by decide +kernel)) (tw_i 1095 (by decide +kernel)) (tw_i 27 (by decide +kernel)) ⟨_, rfl, rfl⟩ (fun r9 M9 h9 => ok_m11_keyHere h9) rfl rfl (RW.of ⟨rfl, rfl, by decide, by decide⟩) (by simp) d_m11_readRule_37 (fun v10 M11 => ?_)
  refine Sm.iast hC d_m11_readRule_40 (fun M12 => ?_)
  refine Sm.aload_n hC d_m11_readRule_41 rfl 0 rfl ?_
  refine Sm.bipush (v := 32) hC d_m11_readRule_42 (by decide) ?_
  refine Sm.callVv 11 (As := [.int (32 : Int32)]) (st := []) hC hR cw_m11_one (tw_i 1110 (by decide +kernel)) (tw_i 1112 (by decide +kernel)) (tw_i 30 (by decide +kernel)) ⟨_, rfl, rfl⟩ (fun r9 M9 h9 => ok_m11_one h9) rfl rfl (RW.of ⟨rfl, rfl, by decide, by decide⟩) (by simp) d_m11_readRule_44 (fun _ M13 => ?_)
  refine Sm.aload_n hC d_m11_readRule_47 rfl 0 rfl ?_
  refine Sm.getR hC fl_m11_52 rfl d_m11_readRule_48 (fun v14 => ?_)
  refine Sm.aload_n hC d_m11_readRule_51 rfl 0 rfl ?_
  refine Sm.getI hC fl_m11_190 rfl d_m11_readRule_52 (fun v15 => ?_)
  refine Sm.aload_n hC d_m11_readRule_55 rfl 0 rfl ?_
  refine Sm.callVi 11 (As := []) (st := [.int v15, rv V.1 v14]) hC hR cw_m11_numberHere (tw_i 1114 (by decide +kernel)) (tw_i 1116 (by decide +kernel)) (tw_i 31 (by decide +kernel)) ⟨_, rfl, rfl⟩ (fun r9 M9 h9 => ok_m11_numberHere h9) rfl rfl (RW.of ⟨rfl, rfl, by decide, by decide⟩) (by simp) d_m11_readRule_56 (fun v16 M17 => ?_)
  refine Sm.iast hC d_m11_readRule_59 (fun M18 => ?_)
  exact w_m11_readRule_60 hC hR FU r0 M18
