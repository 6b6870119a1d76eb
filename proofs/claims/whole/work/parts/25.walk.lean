/-! NewsWireModel.tell(II)I -/
abbrev b_m11_tell : ByteArray := prog_13_method_63_code
def y_m11_tell : MethodName := ⟨"NewsWireModel", "tell", "(II)I"⟩
def rm_m11_tell : Room := { frames := 2, cells := 0, slots := 0, locals := 82 }
theorem cw_m11_tell : CW y_m11_tell b_m11_tell 4 (some .int) 2 := ⟨tw_i 66 (by decide +kernel), tw_i 1284 (by decide +kernel), by decide, by decide, by decide +kernel⟩
theorem d_m11_tell_0 : decode b_m11_tell 0 = .ok (.iload_n 1, 1) := by decide +kernel
theorem d_m11_tell_1 : decode b_m11_tell 1 = .ok (.iconst 0, 1) := by decide +kernel
theorem d_m11_tell_2 : decode b_m11_tell 2 = .ok (.aload_n 0, 1) := by decide +kernel
theorem d_m11_tell_3 : decode b_m11_tell 3 = .ok (.getfield 149, 3) := by decide +kernel
theorem d_m11_tell_6 : decode b_m11_tell 6 = .ok (.ifCond .ne 8, 3) := by decide +kernel
theorem d_m11_tell_9 : decode b_m11_tell 9 = .ok (.bipush 16, 2) := by decide +kernel
theorem d_m11_tell_11 : decode b_m11_tell 11 = .ok (.goto 7, 3) := by decide +kernel
theorem d_m11_tell_14 : decode b_m11_tell 14 = .ok (.aload_n 0, 1) := by decide +kernel
theorem d_m11_tell_15 : decode b_m11_tell 15 = .ok (.getfield 149, 3) := by decide +kernel
theorem d_m11_tell_18 : decode b_m11_tell 18 = .ok (.iconst 1, 1) := by decide +kernel
theorem d_m11_tell_19 : decode b_m11_tell 19 = .ok (.isub, 1) := by decide +kernel
theorem d_m11_tell_20 : decode b_m11_tell 20 = .ok (.invokestatic 135, 3) := by decide +kernel
theorem d_m11_tell_23 : decode b_m11_tell 23 = .ok (.ifCond .ne 10, 3) := by decide +kernel
theorem d_m11_tell_26 : decode b_m11_tell 26 = .ok (.aload_n 0, 1) := by decide +kernel
theorem d_m11_tell_27 : decode b_m11_tell 27 = .ok (.bipush (-3), 2) := by decide +kernel
theorem d_m11_tell_29 : decode b_m11_tell 29 = .ok (.invokevirtual 139, 3) := by decide +kernel
theorem d_m11_tell_32 : decode b_m11_tell 32 = .ok (.ireturn, 1) := by decide +kernel
theorem d_m11_tell_33 : decode b_m11_tell 33 = .ok (.iload_n 2, 1) := by decide +kernel
theorem d_m11_tell_34 : decode b_m11_tell 34 = .ok (.iconst 0, 1) := by decide +kernel
theorem d_m11_tell_35 : decode b_m11_tell 35 = .ok (.sipush 9999, 3) := by decide +kernel
theorem d_m11_tell_38 : decode b_m11_tell 38 = .ok (.invokestatic 135, 3) := by decide +kernel
theorem d_m11_tell_41 : decode b_m11_tell 41 = .ok (.ifCond .ne 10, 3) := by decide +kernel
theorem d_m11_tell_44 : decode b_m11_tell 44 = .ok (.aload_n 0, 1) := by decide +kernel
theorem d_m11_tell_45 : decode b_m11_tell 45 = .ok (.bipush (-7), 2) := by decide +kernel
theorem d_m11_tell_47 : decode b_m11_tell 47 = .ok (.invokevirtual 139, 3) := by decide +kernel
theorem d_m11_tell_50 : decode b_m11_tell 50 = .ok (.ireturn, 1) := by decide +kernel
theorem d_m11_tell_51 : decode b_m11_tell 51 = .ok (.iconst 0, 1) := by decide +kernel
theorem d_m11_tell_52 : decode b_m11_tell 52 = .ok (.istore_n 3, 1) := by decide +kernel
theorem d_m11_tell_53 : decode b_m11_tell 53 = .ok (.iload_n 3, 1) := by decide +kernel
theorem d_m11_tell_54 : decode b_m11_tell 54 = .ok (.bipush 16, 2) := by decide +kernel
theorem d_m11_tell_56 : decode b_m11_tell 56 = .ok (.if_icmp .ge 23, 3) := by decide +kernel
theorem d_m11_tell_59 : decode b_m11_tell 59 = .ok (.aload_n 0, 1) := by decide +kernel
theorem d_m11_tell_60 : decode b_m11_tell 60 = .ok (.getfield 149, 3) := by decide +kernel
theorem d_m11_tell_63 : decode b_m11_tell 63 = .ok (.ifCond .ne 16, 3) := by decide +kernel
theorem d_m11_tell_66 : decode b_m11_tell 66 = .ok (.aload_n 0, 1) := by decide +kernel
theorem d_m11_tell_67 : decode b_m11_tell 67 = .ok (.getfield 46, 3) := by decide +kernel
theorem d_m11_tell_70 : decode b_m11_tell 70 = .ok (.iload_n 3, 1) := by decide +kernel
theorem d_m11_tell_71 : decode b_m11_tell 71 = .ok (.iconst 0, 1) := by decide +kernel
theorem d_m11_tell_72 : decode b_m11_tell 72 = .ok (.iastore, 1) := by decide +kernel
theorem d_m11_tell_73 : decode b_m11_tell 73 = .ok (.iinc 3 1, 3) := by decide +kernel
theorem d_m11_tell_76 : decode b_m11_tell 76 = .ok (.goto (-23), 3) := by decide +kernel
theorem d_m11_tell_79 : decode b_m11_tell 79 = .ok (.aload_n 0, 1) := by decide +kernel
theorem d_m11_tell_80 : decode b_m11_tell 80 = .ok (.aload_n 0, 1) := by decide +kernel
theorem d_m11_tell_81 : decode b_m11_tell 81 = .ok (.getfield 149, 3) := by decide +kernel
theorem d_m11_tell_84 : decode b_m11_tell 84 = .ok (.ifCond .ne 8, 3) := by decide +kernel
theorem d_m11_tell_87 : decode b_m11_tell 87 = .ok (.bipush 16, 2) := by decide +kernel
theorem d_m11_tell_89 : decode b_m11_tell 89 = .ok (.goto 7, 3) := by decide +kernel
theorem d_m11_tell_92 : decode b_m11_tell 92 = .ok (.aload_n 0, 1) := by decide +kernel
theorem d_m11_tell_93 : decode b_m11_tell 93 = .ok (.getfield 149, 3) := by decide +kernel
theorem d_m11_tell_96 : decode b_m11_tell 96 = .ok (.putfield 149, 3) := by decide +kernel
theorem d_m11_tell_99 : decode b_m11_tell 99 = .ok (.aload_n 0, 1) := by decide +kernel
theorem d_m11_tell_100 : decode b_m11_tell 100 = .ok (.getfield 46, 3) := by decide +kernel
theorem d_m11_tell_103 : decode b_m11_tell 103 = .ok (.iload_n 1, 1) := by decide +kernel
theorem d_m11_tell_104 : decode b_m11_tell 104 = .ok (.iload_n 2, 1) := by decide +kernel
theorem d_m11_tell_105 : decode b_m11_tell 105 = .ok (.iastore, 1) := by decide +kernel
theorem d_m11_tell_106 : decode b_m11_tell 106 = .ok (.iconst 1, 1) := by decide +kernel
theorem d_m11_tell_107 : decode b_m11_tell 107 = .ok (.ireturn, 1) := by decide +kernel
def s_m11_tell_96  (r0 : Nat) (x1 : Int32) (x2 : Int32) (t0 : Nat) (t1 : Int32) (M : Mm) : Option (Int32 × Mm) := pI M t0 21 15 t1 (fun M1 => gR M1 r0 21 16 (fun v2 => sI M1 v2 0 x1 x2 (fun M3 => some ((1 : Int32), M3))))
def s_m11_tell_79  (r0 : Nat) (x1 : Int32) (x2 : Int32) (M : Mm) : Option (Int32 × Mm) := gI M r0 21 15 (fun v1 => (if ¬ v1 = 0 then gI M r0 21 15 (fun v2 => s_m11_tell_96 r0 x1 x2 r0 v2 M) else s_m11_tell_96 r0 x1 x2 r0 (16 : Int32) M))
def s_m11_tell_53  : Nat → Nat → Int32 → Int32 → Int32 → Mm → Option (Int32 × Mm)
  | 0, _, _, _, _, _ => none
  | n + 1, r0, x1, x2, x3, M => (if (16 : Int32) ≤ x3 then s_m11_tell_79 r0 x1 x2 M else gI M r0 21 15 (fun v1 => (if ¬ v1 = 0 then s_m11_tell_79 r0 x1 x2 M else gR M r0 21 16 (fun v2 => sI M v2 0 x3 (0 : Int32) (fun M3 => (s_m11_tell_53 n) r0 x1 x2 (x3 + 1) M3)))))
def s_m11_tell_18  (r0 : Nat) (x1 : Int32) (x2 : Int32) (t0 : Int32) (t1 : Int32) (t2 : Int32) (M : Mm) : Option (Int32 × Mm) := cl true (s_m11_in t0 t1 (t2 - (1 : Int32)) M) (fun v1 M2 => (if ¬ v1 = 0 then cl true (s_m11_in x2 (0 : Int32) (9999 : Int32) M2) (fun v3 M4 => (if ¬ v3 = 0 then s_m11_tell_53 FU r0 x1 x2 (0 : Int32) M4 else cl (has M4 r0 21) (s_m11_refused r0 (-7 : Int32) M4) (fun v5 M6 => some (v5, M6)))) else cl (has M2 r0 21) (s_m11_refused r0 (-3 : Int32) M2) (fun v7 M8 => some (v7, M8))))
def s_m11_tell (r0 : Nat) (a1 : Int32) (a2 : Int32) (M : Mm) : Option (Int32 × Mm) := gI M r0 21 15 (fun v1 => (if ¬ v1 = 0 then gI M r0 21 15 (fun v2 => s_m11_tell_18 r0 a1 a2 a1 (0 : Int32) v2 M) else s_m11_tell_18 r0 a1 a2 a1 (0 : Int32) (16 : Int32) M))
set_option maxRecDepth 100000 in
set_option maxHeartbeats 4000000 in
theorem w_m11_tell_96 {V : Ev} {C : Cx} {n0 : Nat} (hC : Cok V C y_m11_tell.cls b_m11_tell 4 n0 (some .int) y_m11_tell.name) (hR : cR C = rm_m11_tell)  : ∀ (r0 : Nat) (x1 : Int32) (x2 : Int32) (t0 : Nat) (t1 : Int32) (M : Mm), Sm V C 4 n0 n0 (qI V C) 96 [(0, rv V.1 r0), (1, .int x1), (2, .int x2)] [.int t1, rv V.1 t0] M (s_m11_tell_96 r0 x1 x2 t0 t1 M) := by
  intro r0 x1 x2 t0 t1 M
  unfold s_m11_tell_96
  refine Sm.putI hC fl_m11_149 rfl d_m11_tell_96 (fun M1 => ?_)
  refine Sm.aload_n hC d_m11_tell_99 rfl 0 rfl ?_
  refine Sm.getR hC fl_m11_46 rfl d_m11_tell_100 (fun v2 => ?_)
  refine Sm.iload_n hC d_m11_tell_103 rfl 1 rfl ?_
  refine Sm.iload_n hC d_m11_tell_104 rfl 2 rfl ?_
  refine Sm.iast hC d_m11_tell_105 (fun M3 => ?_)
  refine Sm.iconst (v := 1) hC d_m11_tell_106 (by decide) ?_
  exact Sm.iret hC d_m11_tell_107 rfl (Nat.sub_self _)
set_option maxRecDepth 100000 in
set_option maxHeartbeats 4000000 in
theorem w_m11_tell_79 {V : Ev} {C : Cx} {n0 : Nat} (hC : Cok V C y_m11_tell.cls b_m11_tell 4 n0 (some .int) y_m11_tell.name) (hR : cR C = rm_m11_tell)  : ∀ (r0 : Nat) (x1 : Int32) (x2 : Int32) (M : Mm), Sm V C 4 n0 n0 (qI V C) 79 [(0, rv V.1 r0), (1, .int x1), (2, .int x2)] [] M (s_m11_tell_79 r0 x1 x2 M) := by
  intro r0 x1 x2 M
  unfold s_m11_tell_79
  refine Sm.aload_n hC d_m11_tell_79 rfl 0 rfl ?_
  refine Sm.aload_n hC d_m11_tell_80 rfl 0 rfl ?_
  refine Sm.getI hC fl_m11_149 rfl d_m11_tell_81 (fun v1 => ?_)
  refine Sm.if_ne (tgt := 92) hC d_m11_tell_84 (by decide) ?_ ?_
  · refine Sm.aload_n hC d_m11_tell_92 rfl 0 rfl ?_
    refine Sm.getI hC fl_m11_149 rfl d_m11_tell_93 (fun v2 => ?_)
    exact w_m11_tell_96 hC hR r0 x1 x2 r0 v2 M
  · refine Sm.bipush (v := 16) hC d_m11_tell_87 (by decide) ?_
    refine Sm.goto (tgt := 96) hC d_m11_tell_89 (by decide) ?_
    exact w_m11_tell_96 hC hR r0 x1 x2 r0 (16 : Int32) M
set_option maxRecDepth 100000 in
set_option maxHeartbeats 4000000 in
theorem w_m11_tell_53 {V : Ev} {C : Cx} {n0 : Nat} (hC : Cok V C y_m11_tell.cls b_m11_tell 4 n0 (some .int) y_m11_tell.name) (hR : cR C = rm_m11_tell)  : ∀ (n : Nat) (r0 : Nat) (x1 : Int32) (x2 : Int32) (x3 : Int32) (M : Mm), Sm V C 4 n0 n0 (qI V C) 53 [(0, rv V.1 r0), (1, .int x1), (2, .int x2), (3, .int x3)] [] M (s_m11_tell_53 n r0 x1 x2 x3 M) := by
  intro n
  induction n with
  | zero => exact fun r0 x1 x2 x3 M => Sm.none_
  | succ n ih =>
    intro r0 x1 x2 x3 M
    unfold s_m11_tell_53
    refine Sm.iload_n hC d_m11_tell_53 rfl 3 rfl ?_
    refine Sm.bipush (v := 16) hC d_m11_tell_54 (by decide) ?_
    refine Sm.icmp_ge (tgt := 79) hC d_m11_tell_56 (by decide) ?_ ?_
    · refine Sm.sub [0, 1, 2] rfl ?_
      exact w_m11_tell_79 hC hR r0 x1 x2 M
    · refine Sm.aload_n hC d_m11_tell_59 rfl 0 rfl ?_
      refine Sm.getI hC fl_m11_149 rfl d_m11_tell_60 (fun v1 => ?_)
      refine Sm.if_ne (tgt := 79) hC d_m11_tell_63 (by decide) ?_ ?_
      · refine Sm.sub [0, 1, 2] rfl ?_
        exact w_m11_tell_79 hC hR r0 x1 x2 M
      · refine Sm.aload_n hC d_m11_tell_66 rfl 0 rfl ?_
        refine Sm.getR hC fl_m11_46 rfl d_m11_tell_67 (fun v2 => ?_)
        refine Sm.iload_n hC d_m11_tell_70 rfl 3 rfl ?_
        refine Sm.iconst (v := 0) hC d_m11_tell_71 (by decide) ?_
        refine Sm.iast hC d_m11_tell_72 (fun M3 => ?_)
        refine Sm.iinc (v := x3 + 1) (lv' := [(3, .int (x3 + 1)), (0, rv V.1 r0), (1, .int x1), (2, .int x2)]) hC d_m11_tell_73 3 rfl rfl (by decide) rfl ?_
        refine Sm.goto (tgt := 53) hC d_m11_tell_76 (by decide) ?_
        refine Sm.sub [1, 2, 3, 0] rfl ?_
        exact ih r0 x1 x2 (x3 + 1) M3
set_option maxRecDepth 100000 in
set_option maxHeartbeats 4000000 in
theorem w_m11_tell_18 {V : Ev} {C : Cx} {n0 : Nat} (hC : Cok V C y_m11_tell.cls b_m11_tell 4 n0 (some .int) y_m11_tell.name) (hR : cR C = rm_m11_tell)  : ∀ (r0 : Nat) (x1 : Int32) (x2 : Int32) (t0 : Int32) (t1 : Int32) (t2 : Int32) (M : Mm), Sm V C 4 n0 n0 (qI V C) 18 [(0, rv V.1 r0), (1, .int x1), (2, .int x2)] [.int t2, .int t1, .int t0] M (s_m11_tell_18 r0 x1 x2 t0 t1 t2 M) := by
  intro r0 x1 x2 t0 t1 t2 M
  unfold s_m11_tell_18
  refine Sm.iconst (v := 1) hC d_m11_tell_18 (by decide) ?_
  refine Sm.isub hC d_m11_tell_19 ?_
  refine Sm.callSi (As := [.int t0, .int t1, .int (t2 - (1 : Int32))]) (st := []) hC hR cw_m11_in (tw_i 1045 (by decide +kernel)) (tw_i 1046 (by decide +kernel)) (fun r9 M9 h9 => ok_m11_in h9) rfl rfl (RW.of ⟨rfl, rfl, by decide, by decide⟩) (by simp) d_m11_tell_20 (fun v1 M2 => ?_)
  refine Sm.if_ne (tgt := 33) hC d_m11_tell_23 (by decide) ?_ ?_
  · refine Sm.iload_n hC d_m11_tell_33 rfl 2 rfl ?_
    refine Sm.iconst (v := 0) hC d_m11_tell_34 (by decide) ?_
    refine Sm.sipush (v := 9999) hC d_m11_tell_35 (by decide) ?_
    refine Sm.callSi (As := [.int x2, .int (0 : Int32), .int (9999 : Int32)]) (st := []) hC hR cw_m11_in (tw_i 1045 (by decide +kernel)) (tw_i 1046 (by decide +kernel)) (fun r9 M9 h9 => ok_m11_in h9) rfl rfl (RW.of ⟨rfl, rfl, by decide, by decide⟩) (by simp) d_m11_tell_38 (fun v3 M4 => ?_)
    refine Sm.if_ne (tgt := 51) hC d_m11_tell_41 (by decide) ?_ ?_
    · refine Sm.iconst (v := 0) hC d_m11_tell_51 (by decide) ?_
      refine Sm.istore_n (lv' := [(3, .int (0 : Int32)), (0, rv V.1 r0), (1, .int x1), (2, .int x2)]) hC d_m11_tell_52 rfl (by decide) rfl ?_
      refine Sm.sub [1, 2, 3, 0] rfl ?_
      exact w_m11_tell_53 hC hR FU r0 x1 x2 (0 : Int32) M4
    · refine Sm.aload_n hC d_m11_tell_44 rfl 0 rfl ?_
      refine Sm.bipush (v := -7) hC d_m11_tell_45 (by decide) ?_
      refine Sm.callVi 11 (As := [.int (-7 : Int32)]) (st := []) hC hR cw_m11_refused (tw_i 1048 (by decide +kernel)) (tw_i 1050 (by decide +kernel)) (tw_i 23 (by decide +kernel)) ⟨_, rfl, rfl⟩ (fun r9 M9 h9 => ok_m11_refused h9) rfl rfl (RW.of ⟨rfl, rfl, by decide, by decide⟩) (by simp) d_m11_tell_47 (fun v5 M6 => ?_)
      exact Sm.iret hC d_m11_tell_50 rfl (Nat.sub_self _)
  · refine Sm.aload_n hC d_m11_tell_26 rfl 0 rfl ?_
    refine Sm.bipush (v := -3) hC d_m11_tell_27 (by decide) ?_
    refine Sm.callVi 11 (As := [.int (-3 : Int32)]) (st := []) hC hR cw_m11_refused (tw_i 1048 (by decide +kernel)) (tw_i 1050 (by decide +kernel)) (tw_i 23 (by decide +kernel)) ⟨_, rfl, rfl⟩ (fun r9 M9 h9 => ok_m11_refused h9) rfl rfl (RW.of ⟨rfl, rfl, by decide, by decide⟩) (by simp) d_m11_tell_29 (fun v7 M8 => ?_)
    exact Sm.iret hC d_m11_tell_32 rfl (Nat.sub_self _)
set_option maxRecDepth 100000 in
set_option maxHeartbeats 4000000 in
theorem ok_m11_tell {l : Launch} {V : Ev} {M M' : Mm} {r : Int32} {r0 : Nat} {a1 : Int32} {a2 : Int32} (h : s_m11_tell r0 a1 a2 M = some (r, M')) : Met l y_m11_tell (Cond.code y_m11_tell b_m11_tell 4 (some .int) :: TW) rm_m11_tell (va_Pc [rv V.1 r0, .int a1, .int a2] (Wd V M)) (QC V (some (.int r)) M' 0) 0 0 (Af V) := by
  refine met_of (fun x : Int32 => some (.int x)) (lv0 := [(0, rv V.1 r0), (1, .int a1), (2, .int a2)]) (by decide) (by simp [lg_sl, cat_rv, cat_i, cat_l, cat_f]) (by simp [lv_args, cat_rv, cat_i, cat_l, cat_f]) (fun C hl hR hC => ?_) h
  subst hl
  generalize mN M = n0 at hC ⊢
  unfold s_m11_tell
  refine Sm.iload_n hC d_m11_tell_0 rfl 1 rfl ?_
  refine Sm.iconst (v := 0) hC d_m11_tell_1 (by decide) ?_
  refine Sm.aload_n hC d_m11_tell_2 rfl 0 rfl ?_
  refine Sm.getI hC fl_m11_149 rfl d_m11_tell_3 (fun v1 => ?_)
  refine Sm.if_ne (tgt := 14) hC d_m11_tell_6 (by decide) ?_ ?_
  · refine Sm.aload_n hC d_m11_tell_14 rfl 0 rfl ?_
    refine Sm.getI hC fl_m11_149 rfl d_m11_tell_15 (fun v2 => ?_)
    exact w_m11_tell_18 hC hR r0 a1 a2 a1 (0 : Int32) v2 M
  · refine Sm.bipush (v := 16) hC d_m11_tell_9 (by decide) ?_
    refine Sm.goto (tgt := 18) hC d_m11_tell_11 (by decide) ?_
    exact w_m11_tell_18 hC hR r0 a1 a2 a1 (0 : Int32) (16 : Int32) M
/-! NewsWireModel.lay(I)I -/
abbrev b_m11_lay2 : ByteArray := prog_13_method_64_code
def y_m11_lay2 : MethodName := ⟨"NewsWireModel", "lay", "(I)I"⟩
def rm_m11_lay2 : Room := { frames := 3, cells := 0, slots := 0, locals := 103 }
theorem cw_m11_lay2 : CW y_m11_lay2 b_m11_lay2 3 (some .int) 1 := ⟨tw_i 66 (by decide +kernel), tw_i 1288 (by decide +kernel), by decide, by decide, by decide +kernel⟩
theorem d_m11_lay2_0 : decode b_m11_lay2 0 = .ok (.aload_n 0, 1) := by decide +kernel
theorem d_m11_lay2_1 : decode b_m11_lay2 1 = .ok (.iload_n 1, 1) := by decide +kernel
theorem d_m11_lay2_2 : decode b_m11_lay2 2 = .ok (.invokevirtual 152, 3) := by decide +kernel
theorem d_m11_lay2_5 : decode b_m11_lay2 5 = .ok (.ifCond .ne 10, 3) := by decide +kernel
theorem d_m11_lay2_8 : decode b_m11_lay2 8 = .ok (.aload_n 0, 1) := by decide +kernel
theorem d_m11_lay2_9 : decode b_m11_lay2 9 = .ok (.bipush (-3), 2) := by decide +kernel
theorem d_m11_lay2_11 : decode b_m11_lay2 11 = .ok (.invokevirtual 139, 3) := by decide +kernel
theorem d_m11_lay2_14 : decode b_m11_lay2 14 = .ok (.ireturn, 1) := by decide +kernel
theorem d_m11_lay2_15 : decode b_m11_lay2 15 = .ok (.aload_n 0, 1) := by decide +kernel
theorem d_m11_lay2_16 : decode b_m11_lay2 16 = .ok (.aload_n 0, 1) := by decide +kernel
theorem d_m11_lay2_17 : decode b_m11_lay2 17 = .ok (.getfield 34, 3) := by decide +kernel
theorem d_m11_lay2_20 : decode b_m11_lay2 20 = .ok (.iload_n 1, 1) := by decide +kernel
theorem d_m11_lay2_21 : decode b_m11_lay2 21 = .ok (.iaload, 1) := by decide +kernel
theorem d_m11_lay2_22 : decode b_m11_lay2 22 = .ok (.putfield 149, 3) := by decide +kernel
theorem d_m11_lay2_25 : decode b_m11_lay2 25 = .ok (.iconst 0, 1) := by decide +kernel
theorem d_m11_lay2_26 : decode b_m11_lay2 26 = .ok (.istore_n 2, 1) := by decide +kernel
theorem d_m11_lay2_27 : decode b_m11_lay2 27 = .ok (.iload_n 2, 1) := by decide +kernel
theorem d_m11_lay2_28 : decode b_m11_lay2 28 = .ok (.aload_n 0, 1) := by decide +kernel
theorem d_m11_lay2_29 : decode b_m11_lay2 29 = .ok (.getfield 149, 3) := by decide +kernel
theorem d_m11_lay2_32 : decode b_m11_lay2 32 = .ok (.if_icmp .ge 26, 3) := by decide +kernel
theorem d_m11_lay2_35 : decode b_m11_lay2 35 = .ok (.aload_n 0, 1) := by decide +kernel
theorem d_m11_lay2_36 : decode b_m11_lay2 36 = .ok (.getfield 46, 3) := by decide +kernel
theorem d_m11_lay2_39 : decode b_m11_lay2 39 = .ok (.iload_n 2, 1) := by decide +kernel
theorem d_m11_lay2_40 : decode b_m11_lay2 40 = .ok (.aload_n 0, 1) := by decide +kernel
theorem d_m11_lay2_41 : decode b_m11_lay2 41 = .ok (.getfield 43, 3) := by decide +kernel
theorem d_m11_lay2_44 : decode b_m11_lay2 44 = .ok (.bipush 12, 2) := by decide +kernel
theorem d_m11_lay2_46 : decode b_m11_lay2 46 = .ok (.iload_n 1, 1) := by decide +kernel
theorem d_m11_lay2_47 : decode b_m11_lay2 47 = .ok (.imul, 1) := by decide +kernel
theorem d_m11_lay2_48 : decode b_m11_lay2 48 = .ok (.iload_n 2, 1) := by decide +kernel
theorem d_m11_lay2_49 : decode b_m11_lay2 49 = .ok (.iadd, 1) := by decide +kernel
theorem d_m11_lay2_50 : decode b_m11_lay2 50 = .ok (.iaload, 1) := by decide +kernel
theorem d_m11_lay2_51 : decode b_m11_lay2 51 = .ok (.iastore, 1) := by decide +kernel
theorem d_m11_lay2_52 : decode b_m11_lay2 52 = .ok (.iinc 2 1, 3) := by decide +kernel
theorem d_m11_lay2_55 : decode b_m11_lay2 55 = .ok (.goto (-28), 3) := by decide +kernel
theorem d_m11_lay2_58 : decode b_m11_lay2 58 = .ok (.aload_n 0, 1) := by decide +kernel
theorem d_m11_lay2_59 : decode b_m11_lay2 59 = .ok (.getfield 149, 3) := by decide +kernel
theorem d_m11_lay2_62 : decode b_m11_lay2 62 = .ok (.ireturn, 1) := by decide +kernel
def s_m11_lay2_27  : Nat → Nat → Int32 → Int32 → Mm → Option (Int32 × Mm)
  | 0, _, _, _, _ => none
  | n + 1, r0, x1, x2, M => gI M r0 21 15 (fun v1 => (if v1 ≤ x2 then gI M r0 21 15 (fun v2 => some (v2, M)) else gR M r0 21 16 (fun v3 => gR M r0 21 14 (fun v4 => aI M v4 0 (((12 : Int32) * x1) + x2) (fun v5 => sI M v3 0 x2 v5 (fun M6 => (s_m11_lay2_27 n) r0 x1 (x2 + 1) M6))))))
def s_m11_lay2 (r0 : Nat) (a1 : Int32) (M : Mm) : Option (Int32 × Mm) := cl (has M r0 21) (s_m11_isPiece r0 a1 M) (fun v1 M2 => (if ¬ v1 = 0 then gR M2 r0 21 11 (fun v3 => aI M2 v3 0 a1 (fun v4 => pI M2 r0 21 15 v4 (fun M5 => s_m11_lay2_27 FU r0 a1 (0 : Int32) M5))) else cl (has M2 r0 21) (s_m11_refused r0 (-3 : Int32) M2) (fun v6 M7 => some (v6, M7))))
set_option maxRecDepth 100000 in
set_option maxHeartbeats 4000000 in
theorem w_m11_lay2_27 {V : Ev} {C : Cx} {n0 : Nat} (hC : Cok V C y_m11_lay2.cls b_m11_lay2 3 n0 (some .int) y_m11_lay2.name) (hR : cR C = rm_m11_lay2)  : ∀ (n : Nat) (r0 : Nat) (x1 : Int32) (x2 : Int32) (M : Mm), Sm V C 3 n0 n0 (qI V C) 27 [(0, rv V.1 r0), (1, .int x1), (2, .int x2)] [] M (s_m11_lay2_27 n r0 x1 x2 M) := by
  intro n
  induction n with
  | zero => exact fun r0 x1 x2 M => Sm.none_
  | succ n ih =>
    intro r0 x1 x2 M
    unfold s_m11_lay2_27
    refine Sm.iload_n hC d_m11_lay2_27 rfl 2 rfl ?_
    refine Sm.aload_n hC d_m11_lay2_28 rfl 0 rfl ?_
    refine Sm.getI hC fl_m11_149 rfl d_m11_lay2_29 (fun v1 => ?_)
    refine Sm.icmp_ge (tgt := 58) hC d_m11_lay2_32 (by decide) ?_ ?_
    · refine Sm.aload_n hC d_m11_lay2_58 rfl 0 rfl ?_
      refine Sm.getI hC fl_m11_149 rfl d_m11_lay2_59 (fun v2 => ?_)
      exact Sm.iret hC d_m11_lay2_62 rfl (Nat.sub_self _)
    · refine Sm.aload_n hC d_m11_lay2_35 rfl 0 rfl ?_
      refine Sm.getR hC fl_m11_46 rfl d_m11_lay2_36 (fun v3 => ?_)
      refine Sm.iload_n hC d_m11_lay2_39 rfl 2 rfl ?_
      refine Sm.aload_n hC d_m11_lay2_40 rfl 0 rfl ?_
      refine Sm.getR hC fl_m11_43 rfl d_m11_lay2_41 (fun v4 => ?_)
      refine Sm.bipush (v := 12) hC d_m11_lay2_44 (by decide) ?_
      refine Sm.iload_n hC d_m11_lay2_46 rfl 1 rfl ?_
      refine Sm.imul hC d_m11_lay2_47 ?_
      refine Sm.iload_n hC d_m11_lay2_48 rfl 2 rfl ?_
      refine Sm.iadd hC d_m11_lay2_49 ?_
      refine Sm.iald hC d_m11_lay2_50 (fun v5 => ?_)
      refine Sm.iast hC d_m11_lay2_51 (fun M6 => ?_)
      refine Sm.iinc (v := x2 + 1) (lv' := [(2, .int (x2 + 1)), (0, rv V.1 r0), (1, .int x1)]) hC d_m11_lay2_52 2 rfl rfl (by decide) rfl ?_
      refine Sm.goto (tgt := 27) hC d_m11_lay2_55 (by decide) ?_
      refine Sm.sub [1, 2, 0] rfl ?_
      exact ih r0 x1 (x2 + 1) M6
set_option maxRecDepth 100000 in
set_option maxHeartbeats 4000000 in
theorem ok_m11_lay2 {l : Launch} {V : Ev} {M M' : Mm} {r : Int32} {r0 : Nat} {a1 : Int32} (h : s_m11_lay2 r0 a1 M = some (r, M')) : Met l y_m11_lay2 (Cond.code y_m11_lay2 b_m11_lay2 3 (some .int) :: TW) rm_m11_lay2 (va_Pc [rv V.1 r0, .int a1] (Wd V M)) (QC V (some (.int r)) M' 0) 0 0 (Af V) := by
  refine met_of (fun x : Int32 => some (.int x)) (lv0 := [(0, rv V.1 r0), (1, .int a1)]) (by decide) (by simp [lg_sl, cat_rv, cat_i, cat_l, cat_f]) (by simp [lv_args, cat_rv, cat_i, cat_l, cat_f]) (fun C hl hR hC => ?_) h
  subst hl
  generalize mN M = n0 at hC ⊢
  unfold s_m11_lay2
  refine Sm.aload_n hC d_m11_lay2_0 rfl 0 rfl ?_
  refine Sm.iload_n hC d_m11_lay2_1 rfl 1 rfl ?_
  refine Sm.callVi 11 (As := [.int a1]) (st := []) hC hR cw_m11_isPiece (tw_i 1060 (by decide +kernel)) (tw_i 1062 (by decide +kernel)) (tw_i 24 (by decide +kernel)) ⟨_, rfl, rfl⟩ (fun r9 M9 h9 => ok_m11_isPiece h9) rfl rfl (RW.of ⟨rfl, rfl, by decide, by decide⟩) (by simp) d_m11_lay2_2 (fun v1 M2 => ?_)
  refine Sm.if_ne (tgt := 15) hC d_m11_lay2_5 (by decide) ?_ ?_
  · refine Sm.aload_n hC d_m11_lay2_15 rfl 0 rfl ?_
    refine Sm.aload_n hC d_m11_lay2_16 rfl 0 rfl ?_
    refine Sm.getR hC fl_m11_34 rfl d_m11_lay2_17 (fun v3 => ?_)
    refine Sm.iload_n hC d_m11_lay2_20 rfl 1 rfl ?_
    refine Sm.iald hC d_m11_lay2_21 (fun v4 => ?_)
    refine Sm.putI hC fl_m11_149 rfl d_m11_lay2_22 (fun M5 => ?_)
    refine Sm.iconst (v := 0) hC d_m11_lay2_25 (by decide) ?_
    refine Sm.istore_n (lv' := [(2, .int (0 : Int32)), (0, rv V.1 r0), (1, .int a1)]) hC d_m11_lay2_26 rfl (by decide) rfl ?_
    refine Sm.sub [1, 2, 0] rfl ?_
    exact w_m11_lay2_27 hC hR FU r0 a1 (0 : Int32) M5
  · refine Sm.aload_n hC d_m11_lay2_8 rfl 0 rfl ?_
    refine Sm.bipush (v := -3) hC d_m11_lay2_9 (by decide) ?_
    refine Sm.callVi 11 (As := [.int (-3 : Int32)]) (st := []) hC hR cw_m11_refused (tw_i 1048 (by decide +kernel)) (tw_i 1050 (by decide +kernel)) (tw_i 23 (by decide +kernel)) ⟨_, rfl, rfl⟩ (fun r9 M9 h9 => ok_m11_refused h9) rfl rfl (RW.of ⟨rfl, rfl, by decide, by decide⟩) (by simp) d_m11_lay2_11 (fun v6 M7 => ?_)
    exact Sm.iret hC d_m11_lay2_14 rfl (Nat.sub_self _)
/-! NewsWireModel.tear()I -/
abbrev b_m11_tear : ByteArray := prog_13_method_65_code
def y_m11_tear : MethodName := ⟨"NewsWireModel", "tear", "()I"⟩
def rm_m11_tear : Room := { frames := 1, cells := 0, slots := 0, locals := 60 }
theorem cw_m11_tear : CW y_m11_tear b_m11_tear 2 (some .int) 0 := ⟨tw_i 66 (by decide +kernel), tw_i 1292 (by decide +kernel), by decide, by decide, by decide +kernel⟩
theorem d_m11_tear_0 : decode b_m11_tear 0 = .ok (.aload_n 0, 1) := by decide +kernel
theorem d_m11_tear_1 : decode b_m11_tear 1 = .ok (.getfield 149, 3) := by decide +kernel
theorem d_m11_tear_4 : decode b_m11_tear 4 = .ok (.ifCond .ne 7, 3) := by decide +kernel
theorem d_m11_tear_7 : decode b_m11_tear 7 = .ok (.iconst 0, 1) := by decide +kernel
theorem d_m11_tear_8 : decode b_m11_tear 8 = .ok (.goto 4, 3) := by decide +kernel
theorem d_m11_tear_11 : decode b_m11_tear 11 = .ok (.iconst 1, 1) := by decide +kernel
theorem d_m11_tear_12 : decode b_m11_tear 12 = .ok (.istore_n 1, 1) := by decide +kernel
theorem d_m11_tear_13 : decode b_m11_tear 13 = .ok (.aload_n 0, 1) := by decide +kernel
theorem d_m11_tear_14 : decode b_m11_tear 14 = .ok (.iconst 0, 1) := by decide +kernel
theorem d_m11_tear_15 : decode b_m11_tear 15 = .ok (.putfield 149, 3) := by decide +kernel
theorem d_m11_tear_18 : decode b_m11_tear 18 = .ok (.iload_n 1, 1) := by decide +kernel
theorem d_m11_tear_19 : decode b_m11_tear 19 = .ok (.ireturn, 1) := by decide +kernel
def s_m11_tear_12  (r0 : Nat) (t0 : Int32) (M : Mm) : Option (Int32 × Mm) := pI M r0 21 15 (0 : Int32) (fun M1 => some (t0, M1))
def s_m11_tear (r0 : Nat) (M : Mm) : Option (Int32 × Mm) := gI M r0 21 15 (fun v1 => (if ¬ v1 = 0 then s_m11_tear_12 r0 (1 : Int32) M else s_m11_tear_12 r0 (0 : Int32) M))
set_option maxRecDepth 100000 in
set_option maxHeartbeats 4000000 in
theorem w_m11_tear_12 {V : Ev} {C : Cx} {n0 : Nat} (hC : Cok V C y_m11_tear.cls b_m11_tear 2 n0 (some .int) y_m11_tear.name) (hR : cR C = rm_m11_tear)  : ∀ (r0 : Nat) (t0 : Int32) (M : Mm), Sm V C 2 n0 n0 (qI V C) 12 [(0, rv V.1 r0)] [.int t0] M (s_m11_tear_12 r0 t0 M) := by
  intro r0 t0 M
  unfold s_m11_tear_12
  refine Sm.istore_n (i := 1) (lv' := [(1, .int t0), (0, rv V.1 r0)]) hC d_m11_tear_12 rfl (by decide) (by simp [cat_rv, cat_i, cat_l, cat_f]) ?_
  refine Sm.aload_n hC d_m11_tear_13 rfl 1 rfl ?_
  refine Sm.iconst (v := 0) hC d_m11_tear_14 (by decide) ?_
  refine Sm.putI hC fl_m11_149 rfl d_m11_tear_15 (fun M1 => ?_)
  refine Sm.iload_n hC d_m11_tear_18 rfl 0 rfl ?_
  exact Sm.iret hC d_m11_tear_19 rfl (Nat.sub_self _)
set_option maxRecDepth 100000 in
set_option maxHeartbeats 4000000 in
theorem ok_m11_tear {l : Launch} {V : Ev} {M M' : Mm} {r : Int32} {r0 : Nat} (h : s_m11_tear r0 M = some (r, M')) : Met l y_m11_tear (Cond.code y_m11_tear b_m11_tear 2 (some .int) :: TW) rm_m11_tear (va_Pc [rv V.1 r0] (Wd V M)) (QC V (some (.int r)) M' 0) 0 0 (Af V) := by
  refine met_of (fun x : Int32 => some (.int x)) (lv0 := [(0, rv V.1 r0)]) (by decide) (by simp [lg_sl, cat_rv, cat_i, cat_l, cat_f]) (by simp [lv_args, cat_rv, cat_i, cat_l, cat_f]) (fun C hl hR hC => ?_) h
  subst hl
  generalize mN M = n0 at hC ⊢
  unfold s_m11_tear
  refine Sm.aload_n hC d_m11_tear_0 rfl 0 rfl ?_
  refine Sm.getI hC fl_m11_149 rfl d_m11_tear_1 (fun v1 => ?_)
  refine Sm.if_ne (tgt := 11) hC d_m11_tear_4 (by decide) ?_ ?_
  · refine Sm.iconst (v := 1) hC d_m11_tear_11 (by decide) ?_
    exact w_m11_tear_12 hC hR r0 (1 : Int32) M
  · refine Sm.iconst (v := 0) hC d_m11_tear_7 (by decide) ?_
    refine Sm.goto (tgt := 12) hC d_m11_tear_8 (by decide) ?_
    exact w_m11_tear_12 hC hR r0 (0 : Int32) M
/-! NewsWireModel.row(I)I -/
abbrev b_m11_row : ByteArray := prog_13_method_66_code
def y_m11_row : MethodName := ⟨"NewsWireModel", "row", "(I)I"⟩
def rm_m11_row : Room := { frames := 2, cells := 0, slots := 0, locals := 82 }
theorem cw_m11_row : CW y_m11_row b_m11_row 2 (some .int) 1 := ⟨tw_i 66 (by decide +kernel), tw_i 1296 (by decide +kernel), by decide, by decide, by decide +kernel⟩
theorem d_m11_row_0 : decode b_m11_row 0 = .ok (.aload_n 0, 1) := by decide +kernel
theorem d_m11_row_1 : decode b_m11_row 1 = .ok (.getfield 149, 3) := by decide +kernel
theorem d_m11_row_4 : decode b_m11_row 4 = .ok (.ifCond .ne 10, 3) := by decide +kernel
theorem d_m11_row_7 : decode b_m11_row 7 = .ok (.aload_n 0, 1) := by decide +kernel
theorem d_m11_row_8 : decode b_m11_row 8 = .ok (.bipush (-2), 2) := by decide +kernel
theorem d_m11_row_10 : decode b_m11_row 10 = .ok (.invokevirtual 139, 3) := by decide +kernel
theorem d_m11_row_13 : decode b_m11_row 13 = .ok (.ireturn, 1) := by decide +kernel
theorem d_m11_row_14 : decode b_m11_row 14 = .ok (.iload_n 1, 1) := by decide +kernel
theorem d_m11_row_15 : decode b_m11_row 15 = .ok (.iconst 0, 1) := by decide +kernel
theorem d_m11_row_16 : decode b_m11_row 16 = .ok (.aload_n 0, 1) := by decide +kernel
theorem d_m11_row_17 : decode b_m11_row 17 = .ok (.getfield 149, 3) := by decide +kernel
theorem d_m11_row_20 : decode b_m11_row 20 = .ok (.iconst 1, 1) := by decide +kernel
theorem d_m11_row_21 : decode b_m11_row 21 = .ok (.isub, 1) := by decide +kernel
theorem d_m11_row_22 : decode b_m11_row 22 = .ok (.invokestatic 135, 3) := by decide +kernel
theorem d_m11_row_25 : decode b_m11_row 25 = .ok (.ifCond .eq 12, 3) := by decide +kernel
theorem d_m11_row_28 : decode b_m11_row 28 = .ok (.aload_n 0, 1) := by decide +kernel
theorem d_m11_row_29 : decode b_m11_row 29 = .ok (.getfield 46, 3) := by decide +kernel
theorem d_m11_row_32 : decode b_m11_row 32 = .ok (.iload_n 1, 1) := by decide +kernel
theorem d_m11_row_33 : decode b_m11_row 33 = .ok (.iaload, 1) := by decide +kernel
theorem d_m11_row_34 : decode b_m11_row 34 = .ok (.goto 9, 3) := by decide +kernel
theorem d_m11_row_37 : decode b_m11_row 37 = .ok (.aload_n 0, 1) := by decide +kernel
theorem d_m11_row_38 : decode b_m11_row 38 = .ok (.bipush (-3), 2) := by decide +kernel
theorem d_m11_row_40 : decode b_m11_row 40 = .ok (.invokevirtual 139, 3) := by decide +kernel
theorem d_m11_row_43 : decode b_m11_row 43 = .ok (.ireturn, 1) := by decide +kernel
def s_m11_row_43  (t0 : Int32) (M : Mm) : Option (Int32 × Mm) := some (t0, M)
def s_m11_row (r0 : Nat) (a1 : Int32) (M : Mm) : Option (Int32 × Mm) := gI M r0 21 15 (fun v1 => (if ¬ v1 = 0 then gI M r0 21 15 (fun v2 => cl true (s_m11_in a1 (0 : Int32) (v2 - (1 : Int32)) M) (fun v3 M4 => (if v3 = 0 then cl (has M4 r0 21) (s_m11_refused r0 (-3 : Int32) M4) (fun v5 M6 => s_m11_row_43 v5 M6) else gR M4 r0 21 16 (fun v7 => aI M4 v7 0 a1 (fun v8 => s_m11_row_43 v8 M4))))) else cl (has M r0 21) (s_m11_refused r0 (-2 : Int32) M) (fun v9 M10 => some (v9, M10))))
set_option maxRecDepth 100000 in
set_option maxHeartbeats 4000000 in
theorem w_m11_row_43 {V : Ev} {C : Cx} {n0 : Nat} (hC : Cok V C y_m11_row.cls b_m11_row 2 n0 (some .int) y_m11_row.name) (hR : cR C = rm_m11_row)  : ∀ (t0 : Int32) (M : Mm), Sm V C 2 n0 n0 (qI V C) 43 [] [.int t0] M (s_m11_row_43 t0 M) := by
  intro t0 M
  unfold s_m11_row_43
  exact Sm.iret hC d_m11_row_43 rfl (Nat.sub_self _)
set_option maxRecDepth 100000 in
set_option maxHeartbeats 4000000 in
theorem ok_m11_row {l : Launch} {V : Ev} {M M' : Mm} {r : Int32} {r0 : Nat} {a1 : Int32} (h : s_m11_row r0 a1 M = some (r, M')) : Met l y_m11_row (Cond.code y_m11_row b_m11_row 2 (some .int) :: TW) rm_m11_row (va_Pc [rv V.1 r0, .int a1] (Wd V M)) (QC V (some (.int r)) M' 0) 0 0 (Af V) := by
  refine met_of (fun x : Int32 => some (.int x)) (lv0 := [(0, rv V.1 r0), (1, .int a1)]) (by decide) (by simp [lg_sl, cat_rv, cat_i, cat_l, cat_f]) (by simp [lv_args, cat_rv, cat_i, cat_l, cat_f]) (fun C hl hR hC => ?_) h
  subst hl
  generalize mN M = n0 at hC ⊢
  unfold s_m11_row
  refine Sm.aload_n hC d_m11_row_0 rfl 0 rfl ?_
  refine Sm.getI hC fl_m11_149 rfl d_m11_row_1 (fun v1 => ?_)
  refine Sm.if_ne (tgt := 14) hC d_m11_row_4 (by decide) ?_ ?_
  · refine Sm.iload_n hC d_m11_row_14 rfl 1 rfl ?_
    refine Sm.iconst (v := 0) hC d_m11_row_15 (by decide) ?_
    refine Sm.aload_n hC d_m11_row_16 rfl 0 rfl ?_
    refine Sm.getI hC fl_m11_149 rfl d_m11_row_17 (fun v2 => ?_)
    refine Sm.iconst (v := 1) hC d_m11_row_20 (by decide) ?_
    refine Sm.isub hC d_m11_row_21 ?_
    refine Sm.callSi (As := [.int a1, .int (0 : Int32), .int (v2 - (1 : Int32))]) (st := []) hC hR cw_m11_in (tw_i 1045 (by decide +kernel)) (tw_i 1046 (by decide +kernel)) (fun r9 M9 h9 => ok_m11_in h9) rfl rfl (RW.of ⟨rfl, rfl, by decide, by decide⟩) (by simp) d_m11_row_22 (fun v3 M4 => ?_)
    refine Sm.if_eq (tgt := 37) hC d_m11_row_25 (by decide) ?_ ?_
    · refine Sm.aload_n hC d_m11_row_37 rfl 0 rfl ?_
      refine Sm.bipush (v := -3) hC d_m11_row_38 (by decide) ?_
      refine Sm.callVi 11 (As := [.int (-3 : Int32)]) (st := []) hC hR cw_m11_refused (tw_i 1048 (by decide +kernel)) (tw_i 1050 (by decide +kernel)) (tw_i 23 (by decide +kernel)) ⟨_, rfl, rfl⟩ (fun r9 M9 h9 => ok_m11_refused h9) rfl rfl (RW.of ⟨rfl, rfl, by decide, by decide⟩) (by simp) d_m11_row_40 (fun v5 M6 => ?_)
      refine Sm.sub [] rfl ?_
      exact w_m11_row_43 hC hR v5 M6
    · refine Sm.aload_n hC d_m11_row_28 rfl 0 rfl ?_
      refine Sm.getR hC fl_m11_46 rfl d_m11_row_29 (fun v7 => ?_)
      refine Sm.iload_n hC d_m11_row_32 rfl 1 rfl ?_
      refine Sm.iald hC d_m11_row_33 (fun v8 => ?_)
      refine Sm.goto (tgt := 43) hC d_m11_row_34 (by decide) ?_
      refine Sm.sub [] rfl ?_
      exact w_m11_row_43 hC hR v8 M4
  · refine Sm.aload_n hC d_m11_row_7 rfl 0 rfl ?_
    refine Sm.bipush (v := -2) hC d_m11_row_8 (by decide) ?_
    refine Sm.callVi 11 (As := [.int (-2 : Int32)]) (st := []) hC hR cw_m11_refused (tw_i 1048 (by decide +kernel)) (tw_i 1050 (by decide +kernel)) (tw_i 23 (by decide +kernel)) ⟨_, rfl, rfl⟩ (fun r9 M9 h9 => ok_m11_refused h9) rfl rfl (RW.of ⟨rfl, rfl, by decide, by decide⟩) (by simp) d_m11_row_10 (fun v9 M10 => ?_)
    exact Sm.iret hC d_m11_row_13 rfl (Nat.sub_self _)
/-! NewsWireModel.copy(III)I -/
abbrev b_m11_copy : ByteArray := prog_13_method_67_code
def y_m11_copy : MethodName := ⟨"NewsWireModel", "copy", "(III)I"⟩
def rm_m11_copy : Room := { frames := 2, cells := 0, slots := 0, locals := 81 }
theorem cw_m11_copy : CW y_m11_copy b_m11_copy 5 (some .int) 3 := ⟨tw_i 66 (by decide +kernel), tw_i 1300 (by decide +kernel), by decide, by decide, by decide +kernel⟩
theorem d_m11_copy_0 : decode b_m11_copy 0 = .ok (.aload_n 0, 1) := by decide +kernel
theorem d_m11_copy_1 : decode b_m11_copy 1 = .ok (.getfield 149, 3) := by decide +kernel
theorem d_m11_copy_4 : decode b_m11_copy 4 = .ok (.ifCond .ne 10, 3) := by decide +kernel
theorem d_m11_copy_7 : decode b_m11_copy 7 = .ok (.aload_n 0, 1) := by decide +kernel
theorem d_m11_copy_8 : decode b_m11_copy 8 = .ok (.bipush (-2), 2) := by decide +kernel
theorem d_m11_copy_10 : decode b_m11_copy 10 = .ok (.invokevirtual 139, 3) := by decide +kernel
theorem d_m11_copy_13 : decode b_m11_copy 13 = .ok (.ireturn, 1) := by decide +kernel
theorem d_m11_copy_14 : decode b_m11_copy 14 = .ok (.iload_n 3, 1) := by decide +kernel
theorem d_m11_copy_15 : decode b_m11_copy 15 = .ok (.ifCond .ge 10, 3) := by decide +kernel
theorem d_m11_copy_18 : decode b_m11_copy 18 = .ok (.aload_n 0, 1) := by decide +kernel
theorem d_m11_copy_19 : decode b_m11_copy 19 = .ok (.bipush (-4), 2) := by decide +kernel
theorem d_m11_copy_21 : decode b_m11_copy 21 = .ok (.invokevirtual 139, 3) := by decide +kernel
theorem d_m11_copy_24 : decode b_m11_copy 24 = .ok (.ireturn, 1) := by decide +kernel
theorem d_m11_copy_25 : decode b_m11_copy 25 = .ok (.iload_n 1, 1) := by decide +kernel
theorem d_m11_copy_26 : decode b_m11_copy 26 = .ok (.ifCond .lt 27, 3) := by decide +kernel
theorem d_m11_copy_29 : decode b_m11_copy 29 = .ok (.iload_n 2, 1) := by decide +kernel
theorem d_m11_copy_30 : decode b_m11_copy 30 = .ok (.ifCond .lt 23, 3) := by decide +kernel
theorem d_m11_copy_33 : decode b_m11_copy 33 = .ok (.iload_n 1, 1) := by decide +kernel
theorem d_m11_copy_34 : decode b_m11_copy 34 = .ok (.aload_n 0, 1) := by decide +kernel
theorem d_m11_copy_35 : decode b_m11_copy 35 = .ok (.getfield 149, 3) := by decide +kernel
theorem d_m11_copy_38 : decode b_m11_copy 38 = .ok (.iload_n 3, 1) := by decide +kernel
theorem d_m11_copy_39 : decode b_m11_copy 39 = .ok (.isub, 1) := by decide +kernel
theorem d_m11_copy_40 : decode b_m11_copy 40 = .ok (.if_icmp .gt 13, 3) := by decide +kernel
theorem d_m11_copy_43 : decode b_m11_copy 43 = .ok (.iload_n 2, 1) := by decide +kernel
theorem d_m11_copy_44 : decode b_m11_copy 44 = .ok (.aload_n 0, 1) := by decide +kernel
theorem d_m11_copy_45 : decode b_m11_copy 45 = .ok (.getfield 149, 3) := by decide +kernel
theorem d_m11_copy_48 : decode b_m11_copy 48 = .ok (.iload_n 3, 1) := by decide +kernel
theorem d_m11_copy_49 : decode b_m11_copy 49 = .ok (.isub, 1) := by decide +kernel
theorem d_m11_copy_50 : decode b_m11_copy 50 = .ok (.if_icmp .le 10, 3) := by decide +kernel
theorem d_m11_copy_53 : decode b_m11_copy 53 = .ok (.aload_n 0, 1) := by decide +kernel
theorem d_m11_copy_54 : decode b_m11_copy 54 = .ok (.bipush (-6), 2) := by decide +kernel
theorem d_m11_copy_56 : decode b_m11_copy 56 = .ok (.invokevirtual 139, 3) := by decide +kernel
theorem d_m11_copy_59 : decode b_m11_copy 59 = .ok (.ireturn, 1) := by decide +kernel
theorem d_m11_copy_60 : decode b_m11_copy 60 = .ok (.iconst 0, 1) := by decide +kernel
theorem d_m11_copy_61 : decode b_m11_copy 61 = .ok (.istore 4, 2) := by decide +kernel
theorem d_m11_copy_63 : decode b_m11_copy 63 = .ok (.iload 4, 2) := by decide +kernel
theorem d_m11_copy_65 : decode b_m11_copy 65 = .ok (.iload_n 3, 1) := by decide +kernel
theorem d_m11_copy_66 : decode b_m11_copy 66 = .ok (.if_icmp .ge 32, 3) := by decide +kernel
theorem d_m11_copy_69 : decode b_m11_copy 69 = .ok (.iload_n 1, 1) := by decide +kernel
theorem d_m11_copy_70 : decode b_m11_copy 70 = .ok (.iload_n 2, 1) := by decide +kernel
theorem d_m11_copy_71 : decode b_m11_copy 71 = .ok (.if_icmp .lt 27, 3) := by decide +kernel
theorem d_m11_copy_74 : decode b_m11_copy 74 = .ok (.aload_n 0, 1) := by decide +kernel
theorem d_m11_copy_75 : decode b_m11_copy 75 = .ok (.getfield 46, 3) := by decide +kernel
theorem d_m11_copy_78 : decode b_m11_copy 78 = .ok (.iload_n 2, 1) := by decide +kernel
theorem d_m11_copy_79 : decode b_m11_copy 79 = .ok (.iload 4, 2) := by decide +kernel
theorem d_m11_copy_81 : decode b_m11_copy 81 = .ok (.iadd, 1) := by decide +kernel
theorem d_m11_copy_82 : decode b_m11_copy 82 = .ok (.aload_n 0, 1) := by decide +kernel
theorem d_m11_copy_83 : decode b_m11_copy 83 = .ok (.getfield 46, 3) := by decide +kernel
theorem d_m11_copy_86 : decode b_m11_copy 86 = .ok (.iload_n 1, 1) := by decide +kernel
theorem d_m11_copy_87 : decode b_m11_copy 87 = .ok (.iload 4, 2) := by decide +kernel
theorem d_m11_copy_89 : decode b_m11_copy 89 = .ok (.iadd, 1) := by decide +kernel
theorem d_m11_copy_90 : decode b_m11_copy 90 = .ok (.iaload, 1) := by decide +kernel
theorem d_m11_copy_91 : decode b_m11_copy 91 = .ok (.iastore, 1) := by decide +kernel
theorem d_m11_copy_92 : decode b_m11_copy 92 = .ok (.iinc 4 1, 3) := by decide +kernel
theorem d_m11_copy_95 : decode b_m11_copy 95 = .ok (.goto (-32), 3) := by decide +kernel
theorem d_m11_copy_98 : decode b_m11_copy 98 = .ok (.iload_n 3, 1) := by decide +kernel
theorem d_m11_copy_99 : decode b_m11_copy 99 = .ok (.iconst 1, 1) := by decide +kernel
theorem d_m11_copy_100 : decode b_m11_copy 100 = .ok (.isub, 1) := by decide +kernel
theorem d_m11_copy_101 : decode b_m11_copy 101 = .ok (.istore 4, 2) := by decide +kernel
theorem d_m11_copy_103 : decode b_m11_copy 103 = .ok (.iload 4, 2) := by decide +kernel
theorem d_m11_copy_105 : decode b_m11_copy 105 = .ok (.ifCond .lt 32, 3) := by decide +kernel
theorem d_m11_copy_108 : decode b_m11_copy 108 = .ok (.iload_n 1, 1) := by decide +kernel
theorem d_m11_copy_109 : decode b_m11_copy 109 = .ok (.iload_n 2, 1) := by decide +kernel
theorem d_m11_copy_110 : decode b_m11_copy 110 = .ok (.if_icmp .ge 27, 3) := by decide +kernel
theorem d_m11_copy_113 : decode b_m11_copy 113 = .ok (.aload_n 0, 1) := by decide +kernel
theorem d_m11_copy_114 : decode b_m11_copy 114 = .ok (.getfield 46, 3) := by decide +kernel
theorem d_m11_copy_117 : decode b_m11_copy 117 = .ok (.iload_n 2, 1) := by decide +kernel
theorem d_m11_copy_118 : decode b_m11_copy 118 = .ok (.iload 4, 2) := by decide +kernel
theorem d_m11_copy_120 : decode b_m11_copy 120 = .ok (.iadd, 1) := by decide +kernel
theorem d_m11_copy_121 : decode b_m11_copy 121 = .ok (.aload_n 0, 1) := by decide +kernel
theorem d_m11_copy_122 : decode b_m11_copy 122 = .ok (.getfield 46, 3) := by decide +kernel
theorem d_m11_copy_125 : decode b_m11_copy 125 = .ok (.iload_n 1, 1) := by decide +kernel
theorem d_m11_copy_126 : decode b_m11_copy 126 = .ok (.iload 4, 2) := by decide +kernel
theorem d_m11_copy_128 : decode b_m11_copy 128 = .ok (.iadd, 1) := by decide +kernel
theorem d_m11_copy_129 : decode b_m11_copy 129 = .ok (.iaload, 1) := by decide +kernel
theorem d_m11_copy_130 : decode b_m11_copy 130 = .ok (.iastore, 1) := by decide +kernel
theorem d_m11_copy_131 : decode b_m11_copy 131 = .ok (.iinc 4 (-1), 3) := by decide +kernel
theorem d_m11_copy_134 : decode b_m11_copy 134 = .ok (.goto (-31), 3) := by decide +kernel
theorem d_m11_copy_137 : decode b_m11_copy 137 = .ok (.iload_n 3, 1) := by decide +kernel
theorem d_m11_copy_138 : decode b_m11_copy 138 = .ok (.ireturn, 1) := by decide +kernel
def s_m11_copy_53  (r0 : Nat) (M : Mm) : Option (Int32 × Mm) := cl (has M r0 21) (s_m11_refused r0 (-6 : Int32) M) (fun v1 M2 => some (v1, M2))
def s_m11_copy_137  (x3 : Int32) (M : Mm) : Option (Int32 × Mm) := some (x3, M)
def s_m11_copy_103  : Nat → Nat → Int32 → Int32 → Int32 → Int32 → Mm → Option (Int32 × Mm)
  | 0, _, _, _, _, _, _ => none
  | n + 1, r0, x1, x2, x3, x4, M => (if x4 < 0 then s_m11_copy_137 x3 M else (if x2 ≤ x1 then s_m11_copy_137 x3 M else gR M r0 21 16 (fun v1 => gR M r0 21 16 (fun v2 => aI M v2 0 (x1 + x4) (fun v3 => sI M v1 0 (x2 + x4) v3 (fun M4 => (s_m11_copy_103 n) r0 x1 x2 x3 (x4 + (-1)) M4))))))
def s_m11_copy_98  (r0 : Nat) (x1 : Int32) (x2 : Int32) (x3 : Int32) (M : Mm) : Option (Int32 × Mm) := s_m11_copy_103 FU r0 x1 x2 x3 (x3 - (1 : Int32)) M
def s_m11_copy_63  : Nat → Nat → Int32 → Int32 → Int32 → Int32 → Mm → Option (Int32 × Mm)
  | 0, _, _, _, _, _, _ => none
  | n + 1, r0, x1, x2, x3, x4, M => (if x3 ≤ x4 then s_m11_copy_98 r0 x1 x2 x3 M else (if x1 < x2 then s_m11_copy_98 r0 x1 x2 x3 M else gR M r0 21 16 (fun v1 => gR M r0 21 16 (fun v2 => aI M v2 0 (x1 + x4) (fun v3 => sI M v1 0 (x2 + x4) v3 (fun M4 => (s_m11_copy_63 n) r0 x1 x2 x3 (x4 + 1) M4))))))
def s_m11_copy (r0 : Nat) (a1 : Int32) (a2 : Int32) (a3 : Int32) (M : Mm) : Option (Int32 × Mm) := gI M r0 21 15 (fun v1 => (if ¬ v1 = 0 then (if 0 ≤ a3 then (if a1 < 0 then s_m11_copy_53 r0 M else (if a2 < 0 then s_m11_copy_53 r0 M else gI M r0 21 15 (fun v2 => (if (v2 - a3) < a1 then s_m11_copy_53 r0 M else gI M r0 21 15 (fun v3 => (if a2 ≤ (v3 - a3) then s_m11_copy_63 FU r0 a1 a2 a3 (0 : Int32) M else s_m11_copy_53 r0 M)))))) else cl (has M r0 21) (s_m11_refused r0 (-4 : Int32) M) (fun v4 M5 => some (v4, M5))) else cl (has M r0 21) (s_m11_refused r0 (-2 : Int32) M) (fun v6 M7 => some (v6, M7))))
set_option maxRecDepth 100000 in
set_option maxHeartbeats 4000000 in
theorem w_m11_copy_53 {V : Ev} {C : Cx} {n0 : Nat} (hC : Cok V C y_m11_copy.cls b_m11_copy 5 n0 (some .int) y_m11_copy.name) (hR : cR C = rm_m11_copy)  : ∀ (r0 : Nat) (M : Mm), Sm V C 5 n0 n0 (qI V C) 53 [(0, rv V.1 r0)] [] M (s_m11_copy_53 r0 M) := by
  intro r0 M
  unfold s_m11_copy_53
  refine Sm.aload_n hC d_m11_copy_53 rfl 0 rfl ?_
  refine Sm.bipush (v := -6) hC d_m11_copy_54 (by decide) ?_
  refine Sm.callVi 11 (As := [.int (-6 : Int32)]) (st := []) hC hR cw_m11_refused (tw_i 1048 (by decide +kernel)) (tw_i 1050 (by decide +kernel)) (tw_i 23 (by decide +kernel)) ⟨_, rfl, rfl⟩ (fun r9 M9 h9 => ok_m11_refused h9) rfl rfl (RW.of ⟨rfl, rfl, by decide, by decide⟩) (by simp) d_m11_copy_56 (fun v1 M2 => ?_)
  exact Sm.iret hC d_m11_copy_59 rfl (Nat.sub_self _)
set_option maxRecDepth 100000 in
set_option maxHeartbeats 4000000 in
theorem w_m11_copy_137 {V : Ev} {C : Cx} {n0 : Nat} (hC : Cok V C y_m11_copy.cls b_m11_copy 5 n0 (some .int) y_m11_copy.name) (hR : cR C = rm_m11_copy)  : ∀ (x3 : Int32) (M : Mm), Sm V C 5 n0 n0 (qI V C) 137 [(3, .int x3)] [] M (s_m11_copy_137 x3 M) := by
  intro x3 M
  unfold s_m11_copy_137
  refine Sm.iload_n hC d_m11_copy_137 rfl 0 rfl ?_
  exact Sm.iret hC d_m11_copy_138 rfl (Nat.sub_self _)
set_option maxRecDepth 100000 in
set_option maxHeartbeats 4000000 in
theorem w_m11_copy_103 {V : Ev} {C : Cx} {n0 : Nat} (hC : Cok V C y_m11_copy.cls b_m11_copy 5 n0 (some .int) y_m11_copy.name) (hR : cR C = rm_m11_copy)  : ∀ (n : Nat) (r0 : Nat) (x1 : Int32) (x2 : Int32) (x3 : Int32) (x4 : Int32) (M : Mm), Sm V C 5 n0 n0 (qI V C) 103 [(0, rv V.1 r0), (1, .int x1), (2, .int x2), (3, .int x3), (4, .int x4)] [] M (s_m11_copy_103 n r0 x1 x2 x3 x4 M) := by
  intro n
  induction n with
  | zero => exact fun r0 x1 x2 x3 x4 M => Sm.none_
  | succ n ih =>
    intro r0 x1 x2 x3 x4 M
    unfold s_m11_copy_103
    refine Sm.iload hC d_m11_copy_103 4 rfl ?_
    refine Sm.if_lt (tgt := 137) hC d_m11_copy_105 (by decide) ?_ ?_
    · refine Sm.sub [3] rfl ?_
      exact w_m11_copy_137 hC hR x3 M
    · refine Sm.iload_n hC d_m11_copy_108 rfl 1 rfl ?_
      refine Sm.iload_n hC d_m11_copy_109 rfl 2 rfl ?_
      refine Sm.icmp_ge (tgt := 137) hC d_m11_copy_110 (by decide) ?_ ?_
      · refine Sm.sub [3] rfl ?_
        exact w_m11_copy_137 hC hR x3 M
      · refine Sm.aload_n hC d_m11_copy_113 rfl 0 rfl ?_
        refine Sm.getR hC fl_m11_46 rfl d_m11_copy_114 (fun v1 => ?_)
        refine Sm.iload_n hC d_m11_copy_117 rfl 2 rfl ?_
        refine Sm.iload hC d_m11_copy_118 4 rfl ?_
        refine Sm.iadd hC d_m11_copy_120 ?_
        refine Sm.aload_n hC d_m11_copy_121 rfl 0 rfl ?_
        refine Sm.getR hC fl_m11_46 rfl d_m11_copy_122 (fun v2 => ?_)
        refine Sm.iload_n hC d_m11_copy_125 rfl 1 rfl ?_
        refine Sm.iload hC d_m11_copy_126 4 rfl ?_
        refine Sm.iadd hC d_m11_copy_128 ?_
        refine Sm.iald hC d_m11_copy_129 (fun v3 => ?_)
        refine Sm.iast hC d_m11_copy_130 (fun M4 => ?_)
        refine Sm.iinc (v := x4 + (-1)) (lv' := [(4, .int (x4 + (-1))), (0, rv V.1 r0), (1, .int x1), (2, .int x2), (3, .int x3)]) hC d_m11_copy_131 4 rfl rfl (by decide) rfl ?_
        refine Sm.goto (tgt := 103) hC d_m11_copy_134 (by decide) ?_
        refine Sm.sub [1, 2, 3, 4, 0] rfl ?_
        exact ih r0 x1 x2 x3 (x4 + (-1)) M4
set_option maxRecDepth 100000 in
set_option maxHeartbeats 4000000 in
theorem w_m11_copy_98 {V : Ev} {C : Cx} {n0 : Nat} (hC : Cok V C y_m11_copy.cls b_m11_copy 5 n0 (some .int) y_m11_copy.name) (hR : cR C = rm_m11_copy)  : ∀ (r0 : Nat) (x1 : Int32) (x2 : Int32) (x3 : Int32) (M : Mm), Sm V C 5 n0 n0 (qI V C) 98 [(0, rv V.1 r0), (1, .int x1), (2, .int x2), (3, .int x3)] [] M (s_m11_copy_98 r0 x1 x2 x3 M) := by
  intro r0 x1 x2 x3 M
  unfold s_m11_copy_98
  refine Sm.iload_n hC d_m11_copy_98 rfl 3 rfl ?_
  refine Sm.iconst (v := 1) hC d_m11_copy_99 (by decide) ?_
  refine Sm.isub hC d_m11_copy_100 ?_
  refine Sm.istore (lv' := [(4, .int (x3 - (1 : Int32))), (0, rv V.1 r0), (1, .int x1), (2, .int x2), (3, .int x3)]) hC d_m11_copy_101 (by decide) rfl ?_
  refine Sm.sub [1, 2, 3, 4, 0] rfl ?_
  exact w_m11_copy_103 hC hR FU r0 x1 x2 x3 (x3 - (1 : Int32)) M
set_option maxRecDepth 100000 in
set_option maxHeartbeats 4000000 in
theorem w_m11_copy_63 {V : Ev} {C : Cx} {n0 : Nat} (hC : Cok V C y_m11_copy.cls b_m11_copy 5 n0 (some .int) y_m11_copy.name) (hR : cR C = rm_m11_copy)  : ∀ (n : Nat) (r0 : Nat) (x1 : Int32) (x2 : Int32) (x3 : Int32) (x4 : Int32) (M : Mm), Sm V C 5 n0 n0 (qI V C) 63 [(0, rv V.1 r0), (1, .int x1), (2, .int x2), (3, .int x3), (4, .int x4)] [] M (s_m11_copy_63 n r0 x1 x2 x3 x4 M) := by
  intro n
  induction n with
  | zero => exact fun r0 x1 x2 x3 x4 M => Sm.none_
  | succ n ih =>
    intro r0 x1 x2 x3 x4 M
    unfold s_m11_copy_63
    refine Sm.iload hC d_m11_copy_63 4 rfl ?_
    refine Sm.iload_n hC d_m11_copy_65 rfl 3 rfl ?_
    refine Sm.icmp_ge (tgt := 98) hC d_m11_copy_66 (by decide) ?_ ?_
    · refine Sm.sub [0, 1, 2, 3] rfl ?_
      exact w_m11_copy_98 hC hR r0 x1 x2 x3 M
    · refine Sm.iload_n hC d_m11_copy_69 rfl 1 rfl ?_
      refine Sm.iload_n hC d_m11_copy_70 rfl 2 rfl ?_
      refine Sm.icmp_lt (tgt := 98) hC d_m11_copy_71 (by decide) ?_ ?_
      · refine Sm.sub [0, 1, 2, 3] rfl ?_
        exact w_m11_copy_98 hC hR r0 x1 x2 x3 M
      · refine Sm.aload_n hC d_m11_copy_74 rfl 0 rfl ?_
        refine Sm.getR hC fl_m11_46 rfl d_m11_copy_75 (fun v1 => ?_)
        refine Sm.iload_n hC d_m11_copy_78 rfl 2 rfl ?_
        refine Sm.iload hC d_m11_copy_79 4 rfl ?_
        refine Sm.iadd hC d_m11_copy_81 ?_
        refine Sm.aload_n hC d_m11_copy_82 rfl 0 rfl ?_
        refine Sm.getR hC fl_m11_46 rfl d_m11_copy_83 (fun v2 => ?_)
        refine Sm.iload_n hC d_m11_copy_86 rfl 1 rfl ?_
        refine Sm.iload hC d_m11_copy_87 4 rfl ?_
        refine Sm.iadd hC d_m11_copy_89 ?_
        refine Sm.iald hC d_m11_copy_90 (fun v3 => ?_)
        refine Sm.iast hC d_m11_copy_91 (fun M4 => ?_)
        refine Sm.iinc (v := x4 + 1) (lv' := [(4, .int (x4 + 1)), (0, rv V.1 r0), (1, .int x1), (2, .int x2), (3, .int x3)]) hC d_m11_copy_92 4 rfl rfl (by decide) rfl ?_
        refine Sm.goto (tgt := 63) hC d_m11_copy_95 (by decide) ?_
        refine Sm.sub [1, 2, 3, 4, 0] rfl ?_
        exact ih r0 x1 x2 x3 (x4 + 1) M4
set_option maxRecDepth 100000 in
set_option maxHeartbeats 4000000 in
theorem ok_m11_copy {l : Launch} {V : Ev} {M M' : Mm} {r : Int32} {r0 : Nat} {a1 : Int32} {a2 : Int32} {a3 : Int32} (h : s_m11_copy r0 a1 a2 a3 M = some (r, M')) : Met l y_m11_copy (Cond.code y_m11_copy b_m11_copy 5 (some .int) :: TW) rm_m11_copy (va_Pc [rv V.1 r0, .int a1, .int a2, .int a3] (Wd V M)) (QC V (some (.int r)) M' 0) 0 0 (Af V) := by
  refine met_of (fun x : Int32 => some (.int x)) (lv0 := [(0, rv V.1 r0), (1, .int a1), (2, .int a2), (3, .int a3)]) (by decide) (by simp [lg_sl, cat_rv, cat_i, cat_l, cat_f]) (by simp [lv_args, cat_rv, cat_i, cat_l, cat_f]) (fun C hl hR hC => ?_) h
  subst hl
  generalize mN M = n0 at hC ⊢
  unfold s_m11_copy
  refine Sm.aload_n hC d_m11_copy_0 rfl 0 rfl ?_
  refine Sm.getI hC fl_m11_149 rfl d_m11_copy_1 (fun v1 => ?_)
  refine Sm.if_ne (tgt := 14) hC d_m11_copy_4 (by decide) ?_ ?_
  · refine Sm.iload_n hC d_m11_copy_14 rfl 3 rfl ?_
    refine Sm.if_ge (tgt := 25) hC d_m11_copy_15 (by decide) ?_ ?_
    · refine Sm.iload_n hC d_m11_copy_25 rfl 1 rfl ?_
      refine Sm.if_lt (tgt := 53) hC d_m11_copy_26 (by decide) ?_ ?_
      · refine Sm.sub [0] rfl ?_
        exact w_m11_copy_53 hC hR r0 M
      · refine Sm.iload_n hC d_m11_copy_29 rfl 2 rfl ?_
        refine Sm.if_lt (tgt := 53) hC d_m11_copy_30 (by decide) ?_ ?_
        · refine Sm.sub [0] rfl ?_
          exact w_m11_copy_53 hC hR r0 M
        · refine Sm.iload_n hC d_m11_copy_33 rfl 1 rfl ?_
          refine Sm.aload_n hC d_m11_copy_34 rfl 0 rfl ?_
          refine Sm.getI hC fl_m11_149 rfl d_m11_copy_35 (fun v2 => ?_)
          refine Sm.iload_n hC d_m11_copy_38 rfl 3 rfl ?_
          refine Sm.isub hC d_m11_copy_39 ?_
          refine Sm.icmp_gt (tgt := 53) hC d_m11_copy_40 (by decide) ?_ ?_
          · refine Sm.sub [0] rfl ?_
            exact w_m11_copy_53 hC hR r0 M
          · refine Sm.iload_n hC d_m11_copy_43 rfl 2 rfl ?_
            refine Sm.aload_n hC d_m11_copy_44 rfl 0 rfl ?_
            refine Sm.getI hC fl_m11_149 rfl d_m11_copy_45 (fun v3 => ?_)
            refine Sm.iload_n hC d_m11_copy_48 rfl 3 rfl ?_
            refine Sm.isub hC d_m11_copy_49 ?_
            refine Sm.icmp_le (tgt := 60) hC d_m11_copy_50 (by decide) ?_ ?_
            · refine Sm.iconst (v := 0) hC d_m11_copy_60 (by decide) ?_
              refine Sm.istore (lv' := [(4, .int (0 : Int32)), (0, rv V.1 r0), (1, .int a1), (2, .int a2), (3, .int a3)]) hC d_m11_copy_61 (by decide) rfl ?_
              refine Sm.sub [1, 2, 3, 4, 0] rfl ?_
              exact w_m11_copy_63 hC hR FU r0 a1 a2 a3 (0 : Int32) M
            · refine Sm.sub [0] rfl ?_
              exact w_m11_copy_53 hC hR r0 M
    · refine Sm.aload_n hC d_m11_copy_18 rfl 0 rfl ?_
      refine Sm.bipush (v := -4) hC d_m11_copy_19 (by decide) ?_
      refine Sm.callVi 11 (As := [.int (-4 : Int32)]) (st := []) hC hR cw_m11_refused (tw_i 1048 (by decide +kernel)) (tw_i 1050 (by decide +kernel)) (tw_i 23 (by decide +kernel)) ⟨_, rfl, rfl⟩ (fun r9 M9 h9 => ok_m11_refused h9) rfl rfl (RW.of ⟨rfl, rfl, by decide, by decide⟩) (by simp) d_m11_copy_21 (fun v4 M5 => ?_)
      exact Sm.iret hC d_m11_copy_24 rfl (Nat.sub_self _)
  · refine Sm.aload_n hC d_m11_copy_7 rfl 0 rfl ?_
    refine Sm.bipush (v := -2) hC d_m11_copy_8 (by decide) ?_
    refine Sm.callVi 11 (As := [.int (-2 : Int32)]) (st := []) hC hR cw_m11_refused (tw_i 1048 (by decide +kernel)) (tw_i 1050 (by decide +kernel)) (tw_i 23 (by decide +kernel)) ⟨_, rfl, rfl⟩ (fun r9 M9 h9 => ok_m11_refused h9) rfl rfl (RW.of ⟨rfl, rfl, by decide, by decide⟩) (by simp) d_m11_copy_10 (fun v6 M7 => ?_)
    exact Sm.iret hC d_m11_copy_13 rfl (Nat.sub_self _)
