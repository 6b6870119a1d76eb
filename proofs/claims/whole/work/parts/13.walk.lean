/-! NewsWire$Wire.wasFiled(I)Z -/
abbrev b_m9_wasFiled : ByteArray := prog_11_method_4_code
def y_m9_wasFiled : MethodName := ⟨"NewsWire$Wire", "wasFiled", "(I)Z"⟩
def rm_m9_wasFiled : Room := { frames := 1, cells := 0, slots := 0, locals := 60 }
theorem cw_m9_wasFiled : CW y_m9_wasFiled b_m9_wasFiled 2 (some .boolean) 1 := ⟨tw_i 63 (by decide +kernel), tw_i 636 (by decide +kernel), by decide, by decide, by decide +kernel⟩
theorem d_m9_wasFiled_0 : decode b_m9_wasFiled 0 = .ok (.aload_n 0, 1) := by decide +kernel
theorem d_m9_wasFiled_1 : decode b_m9_wasFiled 1 = .ok (.getfield 15, 3) := by decide +kernel
theorem d_m9_wasFiled_4 : decode b_m9_wasFiled 4 = .ok (.iload_n 1, 1) := by decide +kernel
theorem d_m9_wasFiled_5 : decode b_m9_wasFiled 5 = .ok (.iaload, 1) := by decide +kernel
theorem d_m9_wasFiled_6 : decode b_m9_wasFiled 6 = .ok (.iconst (-1), 1) := by decide +kernel
theorem d_m9_wasFiled_7 : decode b_m9_wasFiled 7 = .ok (.if_icmp .eq 7, 3) := by decide +kernel
theorem d_m9_wasFiled_10 : decode b_m9_wasFiled 10 = .ok (.iconst 1, 1) := by decide +kernel
theorem d_m9_wasFiled_11 : decode b_m9_wasFiled 11 = .ok (.goto 4, 3) := by decide +kernel
theorem d_m9_wasFiled_14 : decode b_m9_wasFiled 14 = .ok (.iconst 0, 1) := by decide +kernel
theorem d_m9_wasFiled_15 : decode b_m9_wasFiled 15 = .ok (.ireturn, 1) := by decide +kernel
def s_m9_wasFiled_15  (t0 : Int32) (M : Mm) : Option (Int32 × Mm) := rz t0 (some (t0, M))
def s_m9_wasFiled (r0 : Nat) (a1 : Int32) (M : Mm) : Option (Int32 × Mm) := gR M r0 19 1 (fun v1 => aI M v1 0 a1 (fun v2 => (if v2 = (-1 : Int32) then s_m9_wasFiled_15 (0 : Int32) M else s_m9_wasFiled_15 (1 : Int32) M)))
set_option maxRecDepth 100000 in
set_option maxHeartbeats 4000000 in
theorem w_m9_wasFiled_15 {V : Ev} {C : Cx} {n0 : Nat} (hC : Cok V C y_m9_wasFiled.cls b_m9_wasFiled 2 n0 (some .boolean) y_m9_wasFiled.name) (hR : cR C = rm_m9_wasFiled)  : ∀ (t0 : Int32) (M : Mm), Sm V C 2 n0 n0 (qI V C) 15 [] [.int t0] M (s_m9_wasFiled_15 t0 M) := by
  intro t0 M
  unfold s_m9_wasFiled_15
  exact Sm.zret hC d_m9_wasFiled_15 rfl (Nat.sub_self _)
set_option maxRecDepth 100000 in
set_option maxHeartbeats 4000000 in
theorem ok_m9_wasFiled {l : Launch} {V : Ev} {M M' : Mm} {r : Int32} {r0 : Nat} {a1 : Int32} (h : s_m9_wasFiled r0 a1 M = some (r, M')) : Met l y_m9_wasFiled (Cond.code y_m9_wasFiled b_m9_wasFiled 2 (some .boolean) :: TW) rm_m9_wasFiled (va_Pc [rv V.1 r0, .int a1] (Wd V M)) (QC V (some (.int r)) M' 0) 0 0 (Af V) := by
  refine met_of (fun x : Int32 => some (.int x)) (lv0 := [(0, rv V.1 r0), (1, .int a1)]) (by decide) (by simp [lg_sl, cat_rv, cat_i, cat_l, cat_f]) (by simp [lv_args, cat_rv, cat_i, cat_l, cat_f]) (fun C hl hR hC => ?_) h
  subst hl
  generalize mN M = n0 at hC ⊢
  unfold s_m9_wasFiled
  refine Sm.aload_n hC d_m9_wasFiled_0 rfl 0 rfl ?_
  refine Sm.getR hC fl_m9_15 rfl d_m9_wasFiled_1 (fun v1 => ?_)
  refine Sm.iload_n hC d_m9_wasFiled_4 rfl 1 rfl ?_
  refine Sm.iald hC d_m9_wasFiled_5 (fun v2 => ?_)
  refine Sm.iconst (v := -1) hC d_m9_wasFiled_6 (by decide) ?_
  refine Sm.icmp_eq (tgt := 14) hC d_m9_wasFiled_7 (by decide) ?_ ?_
  · refine Sm.iconst (v := 0) hC d_m9_wasFiled_14 (by decide) ?_
    refine Sm.sub [] rfl ?_
    exact w_m9_wasFiled_15 hC hR (0 : Int32) M
  · refine Sm.iconst (v := 1) hC d_m9_wasFiled_10 (by decide) ?_
    refine Sm.goto (tgt := 15) hC d_m9_wasFiled_11 (by decide) ?_
    refine Sm.sub [] rfl ?_
    exact w_m9_wasFiled_15 hC hR (1 : Int32) M
/-! NewsWire$Wire.placeOf(I)I -/
theorem fl_m9_31 : FL "NewsWire$Wire" 31 9 3 0 false .int := ⟨_, _, _, _, rfl, in_c9, ty_c9, nm_c9, by decide, rfl, tw_i 269 (by decide +kernel), rfl, rfl, rfl, rfl⟩
theorem fl_m9_9 : FL "NewsWire$Wire" 9 9 0 2 true (.array .int) := ⟨_, _, _, _, rfl, in_c9, ty_c9, nm_c9, by decide, rfl, tw_i 263 (by decide +kernel), rfl, rfl, rfl, rfl⟩
abbrev b_m9_placeOf : ByteArray := prog_11_method_5_code
def y_m9_placeOf : MethodName := ⟨"NewsWire$Wire", "placeOf", "(I)I"⟩
def rm_m9_placeOf : Room := { frames := 1, cells := 0, slots := 0, locals := 60 }
theorem cw_m9_placeOf : CW y_m9_placeOf b_m9_placeOf 3 (some .int) 1 := ⟨tw_i 63 (by decide +kernel), tw_i 700 (by decide +kernel), by decide, by decide, by decide +kernel⟩
theorem d_m9_placeOf_0 : decode b_m9_placeOf 0 = .ok (.iconst 0, 1) := by decide +kernel
theorem d_m9_placeOf_1 : decode b_m9_placeOf 1 = .ok (.istore_n 2, 1) := by decide +kernel
theorem d_m9_placeOf_2 : decode b_m9_placeOf 2 = .ok (.iload_n 2, 1) := by decide +kernel
theorem d_m9_placeOf_3 : decode b_m9_placeOf 3 = .ok (.aload_n 0, 1) := by decide +kernel
theorem d_m9_placeOf_4 : decode b_m9_placeOf 4 = .ok (.getfield 31, 3) := by decide +kernel
theorem d_m9_placeOf_7 : decode b_m9_placeOf 7 = .ok (.if_icmp .ge 21, 3) := by decide +kernel
theorem d_m9_placeOf_10 : decode b_m9_placeOf 10 = .ok (.aload_n 0, 1) := by decide +kernel
theorem d_m9_placeOf_11 : decode b_m9_placeOf 11 = .ok (.getfield 9, 3) := by decide +kernel
theorem d_m9_placeOf_14 : decode b_m9_placeOf 14 = .ok (.iload_n 2, 1) := by decide +kernel
theorem d_m9_placeOf_15 : decode b_m9_placeOf 15 = .ok (.iaload, 1) := by decide +kernel
theorem d_m9_placeOf_16 : decode b_m9_placeOf 16 = .ok (.iload_n 1, 1) := by decide +kernel
theorem d_m9_placeOf_17 : decode b_m9_placeOf 17 = .ok (.if_icmp .ne 5, 3) := by decide +kernel
theorem d_m9_placeOf_20 : decode b_m9_placeOf 20 = .ok (.iload_n 2, 1) := by decide +kernel
theorem d_m9_placeOf_21 : decode b_m9_placeOf 21 = .ok (.ireturn, 1) := by decide +kernel
theorem d_m9_placeOf_22 : decode b_m9_placeOf 22 = .ok (.iinc 2 1, 3) := by decide +kernel
theorem d_m9_placeOf_25 : decode b_m9_placeOf 25 = .ok (.goto (-23), 3) := by decide +kernel
theorem d_m9_placeOf_28 : decode b_m9_placeOf 28 = .ok (.iconst (-1), 1) := by decide +kernel
theorem d_m9_placeOf_29 : decode b_m9_placeOf 29 = .ok (.ireturn, 1) := by decide +kernel
def s_m9_placeOf_2  : Nat → Nat → Int32 → Int32 → Mm → Option (Int32 × Mm)
  | 0, _, _, _, _ => none
  | n + 1, r0, x1, x2, M => gI M r0 19 3 (fun v1 => (if v1 ≤ x2 then some ((-1 : Int32), M) else gR M r0 19 0 (fun v2 => aI M v2 0 x2 (fun v3 => (if ¬ v3 = x1 then (s_m9_placeOf_2 n) r0 x1 (x2 + 1) M else some (x2, M))))))
def s_m9_placeOf (r0 : Nat) (a1 : Int32) (M : Mm) : Option (Int32 × Mm) := s_m9_placeOf_2 FU r0 a1 (0 : Int32) M
set_option maxRecDepth 100000 in
set_option maxHeartbeats 4000000 in
theorem w_m9_placeOf_2 {V : Ev} {C : Cx} {n0 : Nat} (hC : Cok V C y_m9_placeOf.cls b_m9_placeOf 3 n0 (some .int) y_m9_placeOf.name) (hR : cR C = rm_m9_placeOf)  : ∀ (n : Nat) (r0 : Nat) (x1 : Int32) (x2 : Int32) (M : Mm), Sm V C 3 n0 n0 (qI V C) 2 [(0, rv V.1 r0), (1, .int x1), (2, .int x2)] [] M (s_m9_placeOf_2 n r0 x1 x2 M) := by
  intro n
  induction n with
  | zero => exact fun r0 x1 x2 M => Sm.none_
  | succ n ih =>
    intro r0 x1 x2 M
    unfold s_m9_placeOf_2
    refine Sm.iload_n hC d_m9_placeOf_2 rfl 2 rfl ?_
    refine Sm.aload_n hC d_m9_placeOf_3 rfl 0 rfl ?_
    refine Sm.getI hC fl_m9_31 rfl d_m9_placeOf_4 (fun v1 => ?_)
    refine Sm.icmp_ge (tgt := 28) hC d_m9_placeOf_7 (by decide) ?_ ?_
    · refine Sm.iconst (v := -1) hC d_m9_placeOf_28 (by decide) ?_
      exact Sm.iret hC d_m9_placeOf_29 rfl (Nat.sub_self _)
    · refine Sm.aload_n hC d_m9_placeOf_10 rfl 0 rfl ?_
      refine Sm.getR hC fl_m9_9 rfl d_m9_placeOf_11 (fun v2 => ?_)
      refine Sm.iload_n hC d_m9_placeOf_14 rfl 2 rfl ?_
      refine Sm.iald hC d_m9_placeOf_15 (fun v3 => ?_)
      refine Sm.iload_n hC d_m9_placeOf_16 rfl 1 rfl ?_
      refine Sm.icmp_ne (tgt := 22) hC d_m9_placeOf_17 (by decide) ?_ ?_
      · refine Sm.iinc (v := x2 + 1) (lv' := [(2, .int (x2 + 1)), (0, rv V.1 r0), (1, .int x1)]) hC d_m9_placeOf_22 2 rfl rfl (by decide) rfl ?_
        refine Sm.goto (tgt := 2) hC d_m9_placeOf_25 (by decide) ?_
        refine Sm.sub [1, 2, 0] rfl ?_
        exact ih r0 x1 (x2 + 1) M
      · refine Sm.iload_n hC d_m9_placeOf_20 rfl 2 rfl ?_
        exact Sm.iret hC d_m9_placeOf_21 rfl (Nat.sub_self _)
set_option maxRecDepth 100000 in
set_option maxHeartbeats 4000000 in
theorem ok_m9_placeOf {l : Launch} {V : Ev} {M M' : Mm} {r : Int32} {r0 : Nat} {a1 : Int32} (h : s_m9_placeOf r0 a1 M = some (r, M')) : Met l y_m9_placeOf (Cond.code y_m9_placeOf b_m9_placeOf 3 (some .int) :: TW) rm_m9_placeOf (va_Pc [rv V.1 r0, .int a1] (Wd V M)) (QC V (some (.int r)) M' 0) 0 0 (Af V) := by
  refine met_of (fun x : Int32 => some (.int x)) (lv0 := [(0, rv V.1 r0), (1, .int a1)]) (by decide) (by simp [lg_sl, cat_rv, cat_i, cat_l, cat_f]) (by simp [lv_args, cat_rv, cat_i, cat_l, cat_f]) (fun C hl hR hC => ?_) h
  subst hl
  generalize mN M = n0 at hC ⊢
  unfold s_m9_placeOf
  refine Sm.iconst (v := 0) hC d_m9_placeOf_0 (by decide) ?_
  refine Sm.istore_n (lv' := [(2, .int (0 : Int32)), (0, rv V.1 r0), (1, .int a1)]) hC d_m9_placeOf_1 rfl (by decide) rfl ?_
  refine Sm.sub [1, 2, 0] rfl ?_
  exact w_m9_placeOf_2 hC hR FU r0 a1 (0 : Int32) M
/-! NewsWire$Wire.enqueue(I)V -/
abbrev b_m9_enqueue : ByteArray := prog_11_method_6_code
def y_m9_enqueue : MethodName := ⟨"NewsWire$Wire", "enqueue", "(I)V"⟩
def rm_m9_enqueue : Room := { frames := 1, cells := 0, slots := 0, locals := 60 }
theorem cw_m9_enqueue : CW y_m9_enqueue b_m9_enqueue 2 none 1 := ⟨tw_i 63 (by decide +kernel), tw_i 640 (by decide +kernel), by decide, by decide, by decide +kernel⟩
theorem d_m9_enqueue_0 : decode b_m9_enqueue 0 = .ok (.aload_n 0, 1) := by decide +kernel
theorem d_m9_enqueue_1 : decode b_m9_enqueue 1 = .ok (.getfield 9, 3) := by decide +kernel
theorem d_m9_enqueue_4 : decode b_m9_enqueue 4 = .ok (.aload_n 0, 1) := by decide +kernel
theorem d_m9_enqueue_5 : decode b_m9_enqueue 5 = .ok (.getfield 31, 3) := by decide +kernel
theorem d_m9_enqueue_8 : decode b_m9_enqueue 8 = .ok (.iload_n 1, 1) := by decide +kernel
theorem d_m9_enqueue_9 : decode b_m9_enqueue 9 = .ok (.iastore, 1) := by decide +kernel
theorem d_m9_enqueue_10 : decode b_m9_enqueue 10 = .ok (.aload_n 0, 1) := by decide +kernel
theorem d_m9_enqueue_11 : decode b_m9_enqueue 11 = .ok (.getfield 15, 3) := by decide +kernel
theorem d_m9_enqueue_14 : decode b_m9_enqueue 14 = .ok (.iload_n 1, 1) := by decide +kernel
theorem d_m9_enqueue_15 : decode b_m9_enqueue 15 = .ok (.iconst 0, 1) := by decide +kernel
theorem d_m9_enqueue_16 : decode b_m9_enqueue 16 = .ok (.iastore, 1) := by decide +kernel
theorem d_m9_enqueue_17 : decode b_m9_enqueue 17 = .ok (.aload_n 0, 1) := by decide +kernel
theorem d_m9_enqueue_18 : decode b_m9_enqueue 18 = .ok (.dup, 1) := by decide +kernel
theorem d_m9_enqueue_19 : decode b_m9_enqueue 19 = .ok (.getfield 31, 3) := by decide +kernel
theorem d_m9_enqueue_22 : decode b_m9_enqueue 22 = .ok (.iconst 1, 1) := by decide +kernel
theorem d_m9_enqueue_23 : decode b_m9_enqueue 23 = .ok (.iadd, 1) := by decide +kernel
theorem d_m9_enqueue_24 : decode b_m9_enqueue 24 = .ok (.putfield 31, 3) := by decide +kernel
theorem d_m9_enqueue_27 : decode b_m9_enqueue 27 = .ok (.return_, 1) := by decide +kernel
def s_m9_enqueue (r0 : Nat) (a1 : Int32) (M : Mm) : Option (Unit × Mm) := gR M r0 19 0 (fun v1 => gI M r0 19 3 (fun v2 => sI M v1 0 v2 a1 (fun M3 => gR M3 r0 19 1 (fun v4 => sI M3 v4 0 a1 (0 : Int32) (fun M5 => gI M5 r0 19 3 (fun v6 => pI M5 r0 19 3 (v6 + (1 : Int32)) (fun M7 => some ((), M7))))))))
set_option maxRecDepth 100000 in
set_option maxHeartbeats 4000000 in
theorem ok_m9_enqueue {l : Launch} {V : Ev} {M M' : Mm} {r : Unit} {r0 : Nat} {a1 : Int32} (h : s_m9_enqueue r0 a1 M = some (r, M')) : Met l y_m9_enqueue (Cond.code y_m9_enqueue b_m9_enqueue 2 none :: TW) rm_m9_enqueue (va_Pc [rv V.1 r0, .int a1] (Wd V M)) (QC V none M' 0) 0 0 (Af V) := by
  refine met_of (fun _ : Unit => none) (lv0 := [(0, rv V.1 r0), (1, .int a1)]) (by decide) (by simp [lg_sl, cat_rv, cat_i, cat_l, cat_f]) (by simp [lv_args, cat_rv, cat_i, cat_l, cat_f]) (fun C hl hR hC => ?_) h
  subst hl
  generalize mN M = n0 at hC ⊢
  unfold s_m9_enqueue
  refine Sm.aload_n hC d_m9_enqueue_0 rfl 0 rfl ?_
  refine Sm.getR hC fl_m9_9 rfl d_m9_enqueue_1 (fun v1 => ?_)
  refine Sm.aload_n hC d_m9_enqueue_4 rfl 0 rfl ?_
  refine Sm.getI hC fl_m9_31 rfl d_m9_enqueue_5 (fun v2 => ?_)
  refine Sm.iload_n hC d_m9_enqueue_8 rfl 1 rfl ?_
  refine Sm.iast hC d_m9_enqueue_9 (fun M3 => ?_)
  refine Sm.aload_n hC d_m9_enqueue_10 rfl 0 rfl ?_
  refine Sm.getR hC fl_m9_15 rfl d_m9_enqueue_11 (fun v4 => ?_)
  refine Sm.iload_n hC d_m9_enqueue_14 rfl 1 rfl ?_
  refine Sm.iconst (v := 0) hC d_m9_enqueue_15 (by decide) ?_
  refine Sm.iast hC d_m9_enqueue_16 (fun M5 => ?_)
  refine Sm.aload_n hC d_m9_enqueue_17 rfl 0 rfl ?_
  refine Sm.dup hC d_m9_enqueue_18 (cat_rv _ _) ?_
  refine Sm.getI hC fl_m9_31 rfl d_m9_enqueue_19 (fun v6 => ?_)
  refine Sm.iconst (v := 1) hC d_m9_enqueue_22 (by decide) ?_
  refine Sm.iadd hC d_m9_enqueue_23 ?_
  refine Sm.putI hC fl_m9_31 rfl d_m9_enqueue_24 (fun M7 => ?_)
  exact Sm.vret hC d_m9_enqueue_27 rfl (Nat.sub_self _)
/-! NewsWire$Wire.dequeue(II)V -/
abbrev b_m9_dequeue : ByteArray := prog_11_method_7_code
def y_m9_dequeue : MethodName := ⟨"NewsWire$Wire", "dequeue", "(II)V"⟩
def rm_m9_dequeue : Room := { frames := 1, cells := 0, slots := 0, locals := 60 }
theorem cw_m9_dequeue : CW y_m9_dequeue b_m9_dequeue 4 none 2 := ⟨tw_i 63 (by decide +kernel), tw_i 688 (by decide +kernel), by decide, by decide, by decide +kernel⟩
theorem d_m9_dequeue_0 : decode b_m9_dequeue 0 = .ok (.aload_n 0, 1) := by decide +kernel
theorem d_m9_dequeue_1 : decode b_m9_dequeue 1 = .ok (.getfield 18, 3) := by decide +kernel
theorem d_m9_dequeue_4 : decode b_m9_dequeue 4 = .ok (.aload_n 0, 1) := by decide +kernel
theorem d_m9_dequeue_5 : decode b_m9_dequeue 5 = .ok (.getfield 9, 3) := by decide +kernel
theorem d_m9_dequeue_8 : decode b_m9_dequeue 8 = .ok (.iload_n 1, 1) := by decide +kernel
theorem d_m9_dequeue_9 : decode b_m9_dequeue 9 = .ok (.iaload, 1) := by decide +kernel
theorem d_m9_dequeue_10 : decode b_m9_dequeue 10 = .ok (.iload_n 2, 1) := by decide +kernel
theorem d_m9_dequeue_11 : decode b_m9_dequeue 11 = .ok (.iastore, 1) := by decide +kernel
theorem d_m9_dequeue_12 : decode b_m9_dequeue 12 = .ok (.aload_n 0, 1) := by decide +kernel
theorem d_m9_dequeue_13 : decode b_m9_dequeue 13 = .ok (.dup, 1) := by decide +kernel
theorem d_m9_dequeue_14 : decode b_m9_dequeue 14 = .ok (.getfield 31, 3) := by decide +kernel
theorem d_m9_dequeue_17 : decode b_m9_dequeue 17 = .ok (.iconst 1, 1) := by decide +kernel
theorem d_m9_dequeue_18 : decode b_m9_dequeue 18 = .ok (.isub, 1) := by decide +kernel
theorem d_m9_dequeue_19 : decode b_m9_dequeue 19 = .ok (.putfield 31, 3) := by decide +kernel
theorem d_m9_dequeue_22 : decode b_m9_dequeue 22 = .ok (.iload_n 1, 1) := by decide +kernel
theorem d_m9_dequeue_23 : decode b_m9_dequeue 23 = .ok (.istore_n 3, 1) := by decide +kernel
theorem d_m9_dequeue_24 : decode b_m9_dequeue 24 = .ok (.iload_n 3, 1) := by decide +kernel
theorem d_m9_dequeue_25 : decode b_m9_dequeue 25 = .ok (.aload_n 0, 1) := by decide +kernel
theorem d_m9_dequeue_26 : decode b_m9_dequeue 26 = .ok (.getfield 31, 3) := by decide +kernel
theorem d_m9_dequeue_29 : decode b_m9_dequeue 29 = .ok (.if_icmp .ge 23, 3) := by decide +kernel
theorem d_m9_dequeue_32 : decode b_m9_dequeue 32 = .ok (.aload_n 0, 1) := by decide +kernel
theorem d_m9_dequeue_33 : decode b_m9_dequeue 33 = .ok (.getfield 9, 3) := by decide +kernel
theorem d_m9_dequeue_36 : decode b_m9_dequeue 36 = .ok (.iload_n 3, 1) := by decide +kernel
theorem d_m9_dequeue_37 : decode b_m9_dequeue 37 = .ok (.aload_n 0, 1) := by decide +kernel
theorem d_m9_dequeue_38 : decode b_m9_dequeue 38 = .ok (.getfield 9, 3) := by decide +kernel
theorem d_m9_dequeue_41 : decode b_m9_dequeue 41 = .ok (.iload_n 3, 1) := by decide +kernel
theorem d_m9_dequeue_42 : decode b_m9_dequeue 42 = .ok (.iconst 1, 1) := by decide +kernel
theorem d_m9_dequeue_43 : decode b_m9_dequeue 43 = .ok (.iadd, 1) := by decide +kernel
theorem d_m9_dequeue_44 : decode b_m9_dequeue 44 = .ok (.iaload, 1) := by decide +kernel
theorem d_m9_dequeue_45 : decode b_m9_dequeue 45 = .ok (.iastore, 1) := by decide +kernel
theorem d_m9_dequeue_46 : decode b_m9_dequeue 46 = .ok (.iinc 3 1, 3) := by decide +kernel
theorem d_m9_dequeue_49 : decode b_m9_dequeue 49 = .ok (.goto (-25), 3) := by decide +kernel
theorem d_m9_dequeue_52 : decode b_m9_dequeue 52 = .ok (.return_, 1) := by decide +kernel
def s_m9_dequeue_24  : Nat → Nat → Int32 → Mm → Option (Unit × Mm)
  | 0, _, _, _ => none
  | n + 1, r0, x3, M => gI M r0 19 3 (fun v1 => (if v1 ≤ x3 then some ((), M) else gR M r0 19 0 (fun v2 => gR M r0 19 0 (fun v3 => aI M v3 0 (x3 + (1 : Int32)) (fun v4 => sI M v2 0 x3 v4 (fun M5 => (s_m9_dequeue_24 n) r0 (x3 + 1) M5))))))
def s_m9_dequeue (r0 : Nat) (a1 : Int32) (a2 : Int32) (M : Mm) : Option (Unit × Mm) := gR M r0 19 2 (fun v1 => gR M r0 19 0 (fun v2 => aI M v2 0 a1 (fun v3 => sI M v1 0 v3 a2 (fun M4 => gI M4 r0 19 3 (fun v5 => pI M4 r0 19 3 (v5 - (1 : Int32)) (fun M6 => s_m9_dequeue_24 FU r0 a1 M6))))))
set_option maxRecDepth 100000 in
set_option maxHeartbeats 4000000 in
theorem w_m9_dequeue_24 {V : Ev} {C : Cx} {n0 : Nat} (hC : Cok V C y_m9_dequeue.cls b_m9_dequeue 4 n0 none y_m9_dequeue.name) (hR : cR C = rm_m9_dequeue)  : ∀ (n : Nat) (r0 : Nat) (x3 : Int32) (M : Mm), Sm V C 4 n0 n0 (qV V C) 24 [(0, rv V.1 r0), (3, .int x3)] [] M (s_m9_dequeue_24 n r0 x3 M) := by
  intro n
  induction n with
  | zero => exact fun r0 x3 M => Sm.none_
  | succ n ih =>
    intro r0 x3 M
    unfold s_m9_dequeue_24
    refine Sm.iload_n hC d_m9_dequeue_24 rfl 1 rfl ?_
    refine Sm.aload_n hC d_m9_dequeue_25 rfl 0 rfl ?_
    refine Sm.getI hC fl_m9_31 rfl d_m9_dequeue_26 (fun v1 => ?_)
    refine Sm.icmp_ge (tgt := 52) hC d_m9_dequeue_29 (by decide) ?_ ?_
    · exact Sm.vret hC d_m9_dequeue_52 rfl (Nat.sub_self _)
    · refine Sm.aload_n hC d_m9_dequeue_32 rfl 0 rfl ?_
      refine Sm.getR hC fl_m9_9 rfl d_m9_dequeue_33 (fun v2 => ?_)
      refine Sm.iload_n hC d_m9_dequeue_36 rfl 1 rfl ?_
      refine Sm.aload_n hC d_m9_dequeue_37 rfl 0 rfl ?_
      refine Sm.getR hC fl_m9_9 rfl d_m9_dequeue_38 (fun v3 => ?_)
      refine Sm.iload_n hC d_m9_dequeue_41 rfl 1 rfl ?_
      refine Sm.iconst (v := 1) hC d_m9_dequeue_42 (by decide) ?_
      refine Sm.iadd hC d_m9_dequeue_43 ?_
      refine Sm.iald hC d_m9_dequeue_44 (fun v4 => ?_)
      refine Sm.iast hC d_m9_dequeue_45 (fun M5 => ?_)
      refine Sm.iinc (v := x3 + 1) (lv' := [(3, .int (x3 + 1)), (0, rv V.1 r0)]) hC d_m9_dequeue_46 1 rfl rfl (by decide) rfl ?_
      refine Sm.goto (tgt := 24) hC d_m9_dequeue_49 (by decide) ?_
      refine Sm.sub [1, 0] rfl ?_
      exact ih r0 (x3 + 1) M5
set_option maxRecDepth 100000 in
set_option maxHeartbeats 4000000 in
theorem ok_m9_dequeue {l : Launch} {V : Ev} {M M' : Mm} {r : Unit} {r0 : Nat} {a1 : Int32} {a2 : Int32} (h : s_m9_dequeue r0 a1 a2 M = some (r, M')) : Met l y_m9_dequeue (Cond.code y_m9_dequeue b_m9_dequeue 4 none :: TW) rm_m9_dequeue (va_Pc [rv V.1 r0, .int a1, .int a2] (Wd V M)) (QC V none M' 0) 0 0 (Af V) := by
  refine met_of (fun _ : Unit => none) (lv0 := [(0, rv V.1 r0), (1, .int a1), (2, .int a2)]) (by decide) (by simp [lg_sl, cat_rv, cat_i, cat_l, cat_f]) (by simp [lv_args, cat_rv, cat_i, cat_l, cat_f]) (fun C hl hR hC => ?_) h
  subst hl
  generalize mN M = n0 at hC ⊢
  unfold s_m9_dequeue
  refine Sm.aload_n hC d_m9_dequeue_0 rfl 0 rfl ?_
  refine Sm.getR hC fl_m9_18 rfl d_m9_dequeue_1 (fun v1 => ?_)
  refine Sm.aload_n hC d_m9_dequeue_4 rfl 0 rfl ?_
  refine Sm.getR hC fl_m9_9 rfl d_m9_dequeue_5 (fun v2 => ?_)
  refine Sm.iload_n hC d_m9_dequeue_8 rfl 1 rfl ?_
  refine Sm.iald hC d_m9_dequeue_9 (fun v3 => ?_)
  refine Sm.iload_n hC d_m9_dequeue_10 rfl 2 rfl ?_
  refine Sm.iast hC d_m9_dequeue_11 (fun M4 => ?_)
  refine Sm.aload_n hC d_m9_dequeue_12 rfl 0 rfl ?_
  refine Sm.dup hC d_m9_dequeue_13 (cat_rv _ _) ?_
  refine Sm.getI hC fl_m9_31 rfl d_m9_dequeue_14 (fun v5 => ?_)
  refine Sm.iconst (v := 1) hC d_m9_dequeue_17 (by decide) ?_
  refine Sm.isub hC d_m9_dequeue_18 ?_
  refine Sm.putI hC fl_m9_31 rfl d_m9_dequeue_19 (fun M6 => ?_)
  refine Sm.iload_n hC d_m9_dequeue_22 rfl 1 rfl ?_
  refine Sm.istore_n (lv' := [(3, .int a1), (0, rv V.1 r0), (1, .int a1), (2, .int a2)]) hC d_m9_dequeue_23 rfl (by decide) rfl ?_
  refine Sm.sub [1, 0] rfl ?_
  exact w_m9_dequeue_24 hC hR FU r0 a1 M6
/-! NewsWire.refuse(I)I -/
theorem fl_m10_69 : FL "NewsWire" 69 10 9 2 true (.array .int) := ⟨_, _, _, _, rfl, in_c10, ty_c10, nm_c10, by decide, rfl, tw_i 366 (by decide +kernel), rfl, rfl, rfl, rfl⟩
abbrev b_m10_refuse : ByteArray := prog_1_method_52_code
def y_m10_refuse : MethodName := ⟨"NewsWire", "refuse", "(I)I"⟩
def rm_m10_refuse : Room := { frames := 1, cells := 0, slots := 0, locals := 60 }
theorem cw_m10_refuse : CW y_m10_refuse b_m10_refuse 2 (some .int) 1 := ⟨tw_i 55 (by decide +kernel), tw_i 413 (by decide +kernel), by decide, by decide, by decide +kernel⟩
theorem d_m10_refuse_0 : decode b_m10_refuse 0 = .ok (.aload_n 0, 1) := by decide +kernel
theorem d_m10_refuse_1 : decode b_m10_refuse 1 = .ok (.getfield 69, 3) := by decide +kernel
theorem d_m10_refuse_4 : decode b_m10_refuse 4 = .ok (.bipush (-2), 2) := by decide +kernel
theorem d_m10_refuse_6 : decode b_m10_refuse 6 = .ok (.iload_n 1, 1) := by decide +kernel
theorem d_m10_refuse_7 : decode b_m10_refuse 7 = .ok (.isub, 1) := by decide +kernel
theorem d_m10_refuse_8 : decode b_m10_refuse 8 = .ok (.dup2, 1) := by decide +kernel
theorem d_m10_refuse_9 : decode b_m10_refuse 9 = .ok (.iaload, 1) := by decide +kernel
theorem d_m10_refuse_10 : decode b_m10_refuse 10 = .ok (.iconst 1, 1) := by decide +kernel
theorem d_m10_refuse_11 : decode b_m10_refuse 11 = .ok (.iadd, 1) := by decide +kernel
theorem d_m10_refuse_12 : decode b_m10_refuse 12 = .ok (.iastore, 1) := by decide +kernel
theorem d_m10_refuse_13 : decode b_m10_refuse 13 = .ok (.iload_n 1, 1) := by decide +kernel
theorem d_m10_refuse_14 : decode b_m10_refuse 14 = .ok (.ireturn, 1) := by decide +kernel
def s_m10_refuse (r0 : Nat) (a1 : Int32) (M : Mm) : Option (Int32 × Mm) := gR M r0 20 9 (fun v1 => aI M v1 0 ((-2 : Int32) - a1) (fun v2 => sI M v1 0 ((-2 : Int32) - a1) (v2 + (1 : Int32)) (fun M3 => some (a1, M3))))
set_option maxRecDepth 100000 in
set_option maxHeartbeats 4000000 in
theorem ok_m10_refuse {l : Launch} {V : Ev} {M M' : Mm} {r : Int32} {r0 : Nat} {a1 : Int32} (h : s_m10_refuse r0 a1 M = some (r, M')) : Met l y_m10_refuse (Cond.code y_m10_refuse b_m10_refuse 2 (some .int) :: TW) rm_m10_refuse (va_Pc [rv V.1 r0, .int a1] (Wd V M)) (QC V (some (.int r)) M' 0) 0 0 (Af V) := by
  refine met_of (fun x : Int32 => some (.int x)) (lv0 := [(0, rv V.1 r0), (1, .int a1)]) (by decide) (by simp [lg_sl, cat_rv, cat_i, cat_l, cat_f]) (by simp [lv_args, cat_rv, cat_i, cat_l, cat_f]) (fun C hl hR hC => ?_) h
  subst hl
  generalize mN M = n0 at hC ⊢
  unfold s_m10_refuse
  refine Sm.aload_n hC d_m10_refuse_0 rfl 0 rfl ?_
  refine Sm.getR hC fl_m10_69 rfl d_m10_refuse_1 (fun v1 => ?_)
  refine Sm.bipush (v := -2) hC d_m10_refuse_4 (by decide) ?_
  refine Sm.iload_n hC d_m10_refuse_6 rfl 1 rfl ?_
  refine Sm.isub hC d_m10_refuse_7 ?_
  refine Sm.dup2 hC d_m10_refuse_8 rfl (cat_rv _ _) ?_
  refine Sm.iald hC d_m10_refuse_9 (fun v2 => ?_)
  refine Sm.iconst (v := 1) hC d_m10_refuse_10 (by decide) ?_
  refine Sm.iadd hC d_m10_refuse_11 ?_
  refine Sm.iast hC d_m10_refuse_12 (fun M3 => ?_)
  refine Sm.iload_n hC d_m10_refuse_13 rfl 1 rfl ?_
  exact Sm.iret hC d_m10_refuse_14 rfl (Nat.sub_self _)
/-! NewsWire.wire(III)I -/
theorem fl_m10_80 : FL "NewsWire" 80 10 10 0 false .int := ⟨_, _, _, _, rfl, in_c10, ty_c10, nm_c10, by decide, rfl, tw_i 367 (by decide +kernel), rfl, rfl, rfl, rfl⟩
theorem fl_m10_11 : FL "NewsWire" 11 10 0 2 true (.array (.object "NewsWire$Wire")) := ⟨_, _, _, _, rfl, in_c10, ty_c10, nm_c10, by decide, rfl, tw_i 357 (by decide +kernel), rfl, rfl, rfl, rfl⟩
abbrev b_m10_wire : ByteArray := prog_1_method_2_code
def y_m10_wire : MethodName := ⟨"NewsWire", "wire", "(III)I"⟩
def rm_m10_wire : Room := { frames := 2, cells := 0, slots := 0, locals := 84 }
theorem cw_m10_wire : CW y_m10_wire b_m10_wire 4 (some .int) 3 := ⟨tw_i 55 (by decide +kernel), tw_i 409 (by decide +kernel), by decide, by decide, by decide +kernel⟩
theorem d_m10_wire_0 : decode b_m10_wire 0 = .ok (.iload_n 1, 1) := by decide +kernel
theorem d_m10_wire_1 : decode b_m10_wire 1 = .ok (.ifCond .lt 9, 3) := by decide +kernel
theorem d_m10_wire_4 : decode b_m10_wire 4 = .ok (.iload_n 1, 1) := by decide +kernel
theorem d_m10_wire_5 : decode b_m10_wire 5 = .ok (.bipush 6, 2) := by decide +kernel
theorem d_m10_wire_7 : decode b_m10_wire 7 = .ok (.if_icmp .lt 10, 3) := by decide +kernel
theorem d_m10_wire_10 : decode b_m10_wire 10 = .ok (.aload_n 0, 1) := by decide +kernel
theorem d_m10_wire_11 : decode b_m10_wire 11 = .ok (.bipush (-3), 2) := by decide +kernel
theorem d_m10_wire_13 : decode b_m10_wire 13 = .ok (.invokevirtual 76, 3) := by decide +kernel
theorem d_m10_wire_16 : decode b_m10_wire 16 = .ok (.ireturn, 1) := by decide +kernel
theorem d_m10_wire_17 : decode b_m10_wire 17 = .ok (.iload_n 2, 1) := by decide +kernel
theorem d_m10_wire_18 : decode b_m10_wire 18 = .ok (.iconst 1, 1) := by decide +kernel
theorem d_m10_wire_19 : decode b_m10_wire 19 = .ok (.if_icmp .lt 21, 3) := by decide +kernel
theorem d_m10_wire_22 : decode b_m10_wire 22 = .ok (.iload_n 2, 1) := by decide +kernel
theorem d_m10_wire_23 : decode b_m10_wire 23 = .ok (.sipush 256, 3) := by decide +kernel
theorem d_m10_wire_26 : decode b_m10_wire 26 = .ok (.if_icmp .ge 14, 3) := by decide +kernel
theorem d_m10_wire_29 : decode b_m10_wire 29 = .ok (.iload_n 3, 1) := by decide +kernel
theorem d_m10_wire_30 : decode b_m10_wire 30 = .ok (.iconst 1, 1) := by decide +kernel
theorem d_m10_wire_31 : decode b_m10_wire 31 = .ok (.if_icmp .lt 9, 3) := by decide +kernel
theorem d_m10_wire_34 : decode b_m10_wire 34 = .ok (.iload_n 3, 1) := by decide +kernel
theorem d_m10_wire_35 : decode b_m10_wire 35 = .ok (.bipush 9, 2) := by decide +kernel
theorem d_m10_wire_37 : decode b_m10_wire 37 = .ok (.if_icmp .le 10, 3) := by decide +kernel
theorem d_m10_wire_40 : decode b_m10_wire 40 = .ok (.aload_n 0, 1) := by decide +kernel
theorem d_m10_wire_41 : decode b_m10_wire 41 = .ok (.bipush (-7), 2) := by decide +kernel
theorem d_m10_wire_43 : decode b_m10_wire 43 = .ok (.invokevirtual 76, 3) := by decide +kernel
theorem d_m10_wire_46 : decode b_m10_wire 46 = .ok (.ireturn, 1) := by decide +kernel
theorem d_m10_wire_47 : decode b_m10_wire 47 = .ok (.aload_n 0, 1) := by decide +kernel
theorem d_m10_wire_48 : decode b_m10_wire 48 = .ok (.getfield 80, 3) := by decide +kernel
theorem d_m10_wire_51 : decode b_m10_wire 51 = .ok (.bipush 6, 2) := by decide +kernel
theorem d_m10_wire_53 : decode b_m10_wire 53 = .ok (.if_icmp .lt 10, 3) := by decide +kernel
theorem d_m10_wire_56 : decode b_m10_wire 56 = .ok (.aload_n 0, 1) := by decide +kernel
theorem d_m10_wire_57 : decode b_m10_wire 57 = .ok (.bipush (-8), 2) := by decide +kernel
theorem d_m10_wire_59 : decode b_m10_wire 59 = .ok (.invokevirtual 76, 3) := by decide +kernel
theorem d_m10_wire_62 : decode b_m10_wire 62 = .ok (.ireturn, 1) := by decide +kernel
theorem d_m10_wire_63 : decode b_m10_wire 63 = .ok (.aload_n 0, 1) := by decide +kernel
theorem d_m10_wire_64 : decode b_m10_wire 64 = .ok (.getfield 11, 3) := by decide +kernel
theorem d_m10_wire_67 : decode b_m10_wire 67 = .ok (.aload_n 0, 1) := by decide +kernel
theorem d_m10_wire_68 : decode b_m10_wire 68 = .ok (.getfield 80, 3) := by decide +kernel
theorem d_m10_wire_71 : decode b_m10_wire 71 = .ok (.aaload, 1) := by decide +kernel
theorem d_m10_wire_72 : decode b_m10_wire 72 = .ok (.iload_n 1, 1) := by decide +kernel
theorem d_m10_wire_73 : decode b_m10_wire 73 = .ok (.iload_n 2, 1) := by decide +kernel
theorem d_m10_wire_74 : decode b_m10_wire 74 = .ok (.iload_n 3, 1) := by decide +kernel
theorem d_m10_wire_75 : decode b_m10_wire 75 = .ok (.invokevirtual 84, 3) := by decide +kernel
theorem d_m10_wire_78 : decode b_m10_wire 78 = .ok (.aload_n 0, 1) := by decide +kernel
theorem d_m10_wire_79 : decode b_m10_wire 79 = .ok (.dup, 1) := by decide +kernel
theorem d_m10_wire_80 : decode b_m10_wire 80 = .ok (.getfield 80, 3) := by decide +kernel
theorem d_m10_wire_83 : decode b_m10_wire 83 = .ok (.iconst 1, 1) := by decide +kernel
theorem d_m10_wire_84 : decode b_m10_wire 84 = .ok (.iadd, 1) := by decide +kernel
theorem d_m10_wire_85 : decode b_m10_wire 85 = .ok (.putfield 80, 3) := by decide +kernel
theorem d_m10_wire_88 : decode b_m10_wire 88 = .ok (.aload_n 0, 1) := by decide +kernel
theorem d_m10_wire_89 : decode b_m10_wire 89 = .ok (.getfield 80, 3) := by decide +kernel
theorem d_m10_wire_92 : decode b_m10_wire 92 = .ok (.iconst 1, 1) := by decide +kernel
theorem d_m10_wire_93 : decode b_m10_wire 93 = .ok (.isub, 1) := by decide +kernel
theorem d_m10_wire_94 : decode b_m10_wire 94 = .ok (.ireturn, 1) := by decide +kernel
def s_m10_wire_10  (r0 : Nat) (M : Mm) : Option (Int32 × Mm) := cl (has M r0 20) (s_m10_refuse r0 (-3 : Int32) M) (fun v1 M2 => some (v1, M2))
def s_m10_wire_40  (r0 : Nat) (M : Mm) : Option (Int32 × Mm) := cl (has M r0 20) (s_m10_refuse r0 (-7 : Int32) M) (fun v1 M2 => some (v1, M2))
def s_m10_wire (r0 : Nat) (a1 : Int32) (a2 : Int32) (a3 : Int32) (M : Mm) : Option (Int32 × Mm) := (if a1 < 0 then s_m10_wire_10 r0 M else (if a1 < (6 : Int32) then (if a2 < (1 : Int32) then s_m10_wire_40 r0 M else (if (256 : Int32) ≤ a2 then s_m10_wire_40 r0 M else (if a3 < (1 : Int32) then s_m10_wire_40 r0 M else (if a3 ≤ (9 : Int32) then gI M r0 20 10 (fun v1 => (if v1 < (6 : Int32) then gR M r0 20 0 (fun v2 => gI M r0 20 10 (fun v3 => aR M v2 5 v3 (fun v4 => cl (has M v4 19) (s_m9_open v4 a1 a2 a3 M) (fun _ M5 => gI M5 r0 20 10 (fun v6 => pI M5 r0 20 10 (v6 + (1 : Int32)) (fun M7 => gI M7 r0 20 10 (fun v8 => some (v8 - (1 : Int32), M7)))))))) else cl (has M r0 20) (s_m10_refuse r0 (-8 : Int32) M) (fun v9 M10 => some (v9, M10)))) else s_m10_wire_40 r0 M)))) else s_m10_wire_10 r0 M))
set_option maxRecDepth 100000 in
set_option maxHeartbeats 4000000 in
theorem w_m10_wire_10 {V : Ev} {C : Cx} {n0 : Nat} (hC : Cok V C y_m10_wire.cls b_m10_wire 4 n0 (some .int) y_m10_wire.name) (hR : cR C = rm_m10_wire)  : ∀ (r0 : Nat) (M : Mm), Sm V C 4 n0 n0 (qI V C) 10 [(0, rv V.1 r0)] [] M (s_m10_wire_10 r0 M) := by
  intro r0 M
  unfold s_m10_wire_10
  refine Sm.aload_n hC d_m10_wire_10 rfl 0 rfl ?_
  refine Sm.bipush (v := -3) hC d_m10_wire_11 (by decide) ?_
  refine Sm.callVi 10 (As := [.int (-3 : Int32)]) (st := []) hC hR cw_m10_refuse (tw_i 410 (by decide +kernel)) (tw_i 412 (by decide +kernel)) (tw_i 0 (by decide +kernel)) ⟨_, rfl, rfl⟩ (fun r9 M9 h9 => ok_m10_refuse h9) rfl rfl (RW.of ⟨rfl, rfl, by decide, by decide⟩) (by simp) d_m10_wire_13 (fun v1 M2 => ?_)
  exact Sm.iret hC d_m10_wire_16 rfl (Nat.sub_self _)
set_option maxRecDepth 100000 in
set_option maxHeartbeats 4000000 in
theorem w_m10_wire_40 {V : Ev} {C : Cx} {n0 : Nat} (hC : Cok V C y_m10_wire.cls b_m10_wire 4 n0 (some .int) y_m10_wire.name) (hR : cR C = rm_m10_wire)  : ∀ (r0 : Nat) (M : Mm), Sm V C 4 n0 n0 (qI V C) 40 [(0, rv V.1 r0)] [] M (s_m10_wire_40 r0 M) := by
  intro r0 M
  unfold s_m10_wire_40
  refine Sm.aload_n hC d_m10_wire_40 rfl 0 rfl ?_
  refine Sm.bipush (v := -7) hC d_m10_wire_41 (by decide) ?_
  refine Sm.callVi 10 (As := [.int (-7 : Int32)]) (st := []) hC hR cw_m10_refuse (tw_i 410 (by decide +kernel)) (tw_i 412 (by decide +kernel)) (tw_i 0 (by decide +kernel)) ⟨_, rfl, rfl⟩ (fun r9 M9 h9 => ok_m10_refuse h9) rfl rfl (RW.of ⟨rfl, rfl, by decide, by decide⟩) (by simp) d_m10_wire_43 (fun v1 M2 => ?_)
  exact Sm.iret hC d_m10_wire_46 rfl (Nat.sub_self _)
set_option maxRecDepth 100000 in
set_option maxHeartbeats 4000000 in
theorem ok_m10_wire {l : Launch} {V : Ev} {M M' : Mm} {r : Int32} {r0 : Nat} {a1 : Int32} {a2 : Int32} {a3 : Int32} (h : s_m10_wire r0 a1 a2 a3 M = some (r, M')) : Met l y_m10_wire (Cond.code y_m10_wire b_m10_wire 4 (some .int) :: TW) rm_m10_wire (va_Pc [rv V.1 r0, .int a1, .int a2, .int a3] (Wd V M)) (QC V (some (.int r)) M' 0) 0 0 (Af V) := by
  refine met_of (fun x : Int32 => some (.int x)) (lv0 := [(0, rv V.1 r0), (1, .int a1), (2, .int a2), (3, .int a3)]) (by decide) (by simp [lg_sl, cat_rv, cat_i, cat_l, cat_f]) (by simp [lv_args, cat_rv, cat_i, cat_l, cat_f]) (fun C hl hR hC => ?_) h
  subst hl
  generalize mN M = n0 at hC ⊢
  unfold s_m10_wire
  refine Sm.iload_n hC d_m10_wire_0 rfl 1 rfl ?_
  refine Sm.if_lt (tgt := 10) hC d_m10_wire_1 (by decide) ?_ ?_
  · refine Sm.sub [0] rfl ?_
    exact w_m10_wire_10 hC hR r0 M
  · refine Sm.iload_n hC d_m10_wire_4 rfl 1 rfl ?_
    refine Sm.bipush (v := 6) hC d_m10_wire_5 (by decide) ?_
    refine Sm.icmp_lt (tgt := 17) hC d_m10_wire_7 (by decide) ?_ ?_
    · refine Sm.iload_n hC d_m10_wire_17 rfl 2 rfl ?_
      refine Sm.iconst (v := 1) hC d_m10_wire_18 (by decide) ?_
      refine Sm.icmp_lt (tgt := 40) hC d_m10_wire_19 (by decide) ?_ ?_
      · refine Sm.sub [0] rfl ?_
        exact w_m10_wire_40 hC hR r0 M
      · refine Sm.iload_n hC d_m10_wire_22 rfl 2 rfl ?_
        refine Sm.sipush (v := 256) hC d_m10_wire_23 (by decide) ?_
        refine Sm.icmp_ge (tgt := 40) hC d_m10_wire_26 (by decide) ?_ ?_
        · refine Sm.sub [0] rfl ?_
          exact w_m10_wire_40 hC hR r0 M
        · refine Sm.iload_n hC d_m10_wire_29 rfl 3 rfl ?_
          refine Sm.iconst (v := 1) hC d_m10_wire_30 (by decide) ?_
          refine Sm.icmp_lt (tgt := 40) hC d_m10_wire_31 (by decide) ?_ ?_
          · refine Sm.sub [0] rfl ?_
            exact w_m10_wire_40 hC hR r0 M
          · refine Sm.iload_n hC d_m10_wire_34 rfl 3 rfl ?_
            refine Sm.bipush (v := 9) hC d_m10_wire_35 (by decide) ?_
            refine Sm.icmp_le (tgt := 47) hC d_m10_wire_37 (by decide) ?_ ?_
            · refine Sm.aload_n hC d_m10_wire_47 rfl 0 rfl ?_
              refine Sm.getI hC fl_m10_80 rfl d_m10_wire_48 (fun v1 => ?_)
              refine Sm.bipush (v := 6) hC d_m10_wire_51 (by decide) ?_
              refine Sm.icmp_lt (tgt := 63) hC d_m10_wire_53 (by decide) ?_ ?_
              · refine Sm.aload_n hC d_m10_wire_63 rfl 0 rfl ?_
                refine Sm.getR hC fl_m10_11 rfl d_m10_wire_64 (fun v2 => ?_)
                refine Sm.aload_n hC d_m10_wire_67 rfl 0 rfl ?_
                refine Sm.getI hC fl_m10_80 rfl d_m10_wire_68 (fun v3 => ?_)
                refine Sm.aald (Cn := n_c9) hC ⟨by decide, by decide⟩ rfl d_m10_wire_71 (fun v4 => ?_)
                refine Sm.iload_n hC d_m10_wire_72 rfl 1 rfl ?_
                refine Sm.iload_n hC d_m10_wire_73 rfl 2 rfl ?_
                refine Sm.iload_n hC d_m10_wire_74 rfl 3 rfl ?_
                refine Sm.callVv 9 (As := [.int a1, .int a2, .int a3]) (st := []) hC hR cw_m9_open (tw_i 414 (by decide +kernel)) (tw_i 415 (by decide +kernel)) (tw_i 416 (by decide +kernel)) ⟨_, rfl, rfl⟩ (fun r9 M9 h9 => ok_m9_open h9) rfl rfl (RW.of ⟨rfl, rfl, by decide, by decide⟩) (by simp) d_m10_wire_75 (fun _ M5 => ?_)
                refine Sm.aload_n hC d_m10_wire_78 rfl 0 rfl ?_
                refine Sm.dup hC d_m10_wire_79 (cat_rv _ _) ?_
                refine Sm.getI hC fl_m10_80 rfl d_m10_wire_80 (fun v6 => ?_)
                refine Sm.iconst (v := 1) hC d_m10_wire_83 (by decide) ?_
                refine Sm.iadd hC d_m10_wire_84 ?_
                refine Sm.putI hC fl_m10_80 rfl d_m10_wire_85 (fun M7 => ?_)
                refine Sm.aload_n hC d_m10_wire_88 rfl 0 rfl ?_
                refine Sm.getI hC fl_m10_80 rfl d_m10_wire_89 (fun v8 => ?_)
                refine Sm.iconst (v := 1) hC d_m10_wire_92 (by decide) ?_
                refine Sm.isub hC d_m10_wire_93 ?_
                exact Sm.iret hC d_m10_wire_94 rfl (Nat.sub_self _)
              · refine Sm.aload_n hC d_m10_wire_56 rfl 0 rfl ?_
                refine Sm.bipush (v := -8) hC d_m10_wire_57 (by decide) ?_
                refine Sm.callVi 10 (As := [.int (-8 : Int32)]) (st := []) hC hR cw_m10_refuse (tw_i 410 (by decide +kernel)) (tw_i 412 (by decide +kernel)) (tw_i 0 (by decide +kernel)) ⟨_, rfl, rfl⟩ (fun r9 M9 h9 => ok_m10_refuse h9) rfl rfl (RW.of ⟨rfl, rfl, by decide, by decide⟩) (by simp) d_m10_wire_59 (fun v9 M10 => ?_)
                exact Sm.iret hC d_m10_wire_62 rfl (Nat.sub_self _)
            · refine Sm.sub [0] rfl ?_
              exact w_m10_wire_40 hC hR r0 M
    · refine Sm.sub [0] rfl ?_
      exact w_m10_wire_10 hC hR r0 M
/-! NewsWire.storyOfPiece(I)I -/
abbrev b_m10_storyOfPiece : ByteArray := prog_1_method_9_code
def y_m10_storyOfPiece : MethodName := ⟨"NewsWire", "storyOfPiece", "(I)I"⟩
def rm_m10_storyOfPiece : Room := { frames := 1, cells := 0, slots := 0, locals := 60 }
theorem cw_m10_storyOfPiece : CW y_m10_storyOfPiece b_m10_storyOfPiece 1 (some .int) 1 := ⟨tw_i 55 (by decide +kernel), tw_i 432 (by decide +kernel), by decide, by decide, by decide +kernel⟩
theorem d_m10_storyOfPiece_0 : decode b_m10_storyOfPiece 0 = .ok (.iload_n 0, 1) := by decide +kernel
theorem d_m10_storyOfPiece_1 : decode b_m10_storyOfPiece 1 = .ok (.bipush 10, 2) := by decide +kernel
theorem d_m10_storyOfPiece_3 : decode b_m10_storyOfPiece 3 = .ok (.idiv, 1) := by decide +kernel
theorem d_m10_storyOfPiece_4 : decode b_m10_storyOfPiece 4 = .ok (.bipush 10, 2) := by decide +kernel
theorem d_m10_storyOfPiece_6 : decode b_m10_storyOfPiece 6 = .ok (.irem, 1) := by decide +kernel
theorem d_m10_storyOfPiece_7 : decode b_m10_storyOfPiece 7 = .ok (.ireturn, 1) := by decide +kernel
def s_m10_storyOfPiece (a0 : Int32) (M : Mm) : Option (Int32 × Mm) := dz (10 : Int32) (dz (10 : Int32) (some ((a0 / (10 : Int32)) - (a0 / (10 : Int32)) / (10 : Int32) * (10 : Int32), M)))
set_option maxRecDepth 100000 in
set_option maxHeartbeats 4000000 in
theorem ok_m10_storyOfPiece {l : Launch} {V : Ev} {M M' : Mm} {r : Int32} {a0 : Int32} (h : s_m10_storyOfPiece a0 M = some (r, M')) : Met l y_m10_storyOfPiece (Cond.code y_m10_storyOfPiece b_m10_storyOfPiece 1 (some .int) :: TW) rm_m10_storyOfPiece (va_Pc [.int a0] (Wd V M)) (QC V (some (.int r)) M' 0) 0 0 (Af V) := by
  refine met_of (fun x : Int32 => some (.int x)) (lv0 := [(0, .int a0)]) (by decide) (by simp [lg_sl, cat_rv, cat_i, cat_l, cat_f]) (by simp [lv_args, cat_rv, cat_i, cat_l, cat_f]) (fun C hl hR hC => ?_) h
  subst hl
  generalize mN M = n0 at hC ⊢
  unfold s_m10_storyOfPiece
  refine Sm.iload_n hC d_m10_storyOfPiece_0 rfl 0 rfl ?_
  refine Sm.bipush (v := 10) hC d_m10_storyOfPiece_1 (by decide) ?_
  refine Sm.idiv hC d_m10_storyOfPiece_3 ?_
  refine Sm.bipush (v := 10) hC d_m10_storyOfPiece_4 (by decide) ?_
  refine Sm.irem hC d_m10_storyOfPiece_6 ?_
  exact Sm.iret hC d_m10_storyOfPiece_7 rfl (Nat.sub_self _)
/-! NewsWire.isOfPiece(I)Z -/
abbrev b_m10_isOfPiece : ByteArray := prog_1_method_10_code
def y_m10_isOfPiece : MethodName := ⟨"NewsWire", "isOfPiece", "(I)Z"⟩
def rm_m10_isOfPiece : Room := { frames := 1, cells := 0, slots := 0, locals := 60 }
theorem cw_m10_isOfPiece : CW y_m10_isOfPiece b_m10_isOfPiece 1 (some .boolean) 1 := ⟨tw_i 55 (by decide +kernel), tw_i 435 (by decide +kernel), by decide, by decide, by decide +kernel⟩
theorem d_m10_isOfPiece_0 : decode b_m10_isOfPiece 0 = .ok (.iload_n 0, 1) := by decide +kernel
theorem d_m10_isOfPiece_1 : decode b_m10_isOfPiece 1 = .ok (.iconst 2, 1) := by decide +kernel
theorem d_m10_isOfPiece_2 : decode b_m10_isOfPiece 2 = .ok (.if_icmp .eq 13, 3) := by decide +kernel
theorem d_m10_isOfPiece_5 : decode b_m10_isOfPiece 5 = .ok (.iload_n 0, 1) := by decide +kernel
theorem d_m10_isOfPiece_6 : decode b_m10_isOfPiece 6 = .ok (.iconst 3, 1) := by decide +kernel
theorem d_m10_isOfPiece_7 : decode b_m10_isOfPiece 7 = .ok (.if_icmp .eq 8, 3) := by decide +kernel
theorem d_m10_isOfPiece_10 : decode b_m10_isOfPiece 10 = .ok (.iload_n 0, 1) := by decide +kernel
theorem d_m10_isOfPiece_11 : decode b_m10_isOfPiece 11 = .ok (.iconst 4, 1) := by decide +kernel
theorem d_m10_isOfPiece_12 : decode b_m10_isOfPiece 12 = .ok (.if_icmp .ne 7, 3) := by decide +kernel
theorem d_m10_isOfPiece_15 : decode b_m10_isOfPiece 15 = .ok (.iconst 1, 1) := by decide +kernel
theorem d_m10_isOfPiece_16 : decode b_m10_isOfPiece 16 = .ok (.goto 4, 3) := by decide +kernel
theorem d_m10_isOfPiece_19 : decode b_m10_isOfPiece 19 = .ok (.iconst 0, 1) := by decide +kernel
theorem d_m10_isOfPiece_20 : decode b_m10_isOfPiece 20 = .ok (.ireturn, 1) := by decide +kernel
def s_m10_isOfPiece_20  (t0 : Int32) (M : Mm) : Option (Int32 × Mm) := rz t0 (some (t0, M))
def s_m10_isOfPiece_15   (M : Mm) : Option (Int32 × Mm) := s_m10_isOfPiece_20 (1 : Int32) M
def s_m10_isOfPiece (a0 : Int32) (M : Mm) : Option (Int32 × Mm) := (if a0 = (2 : Int32) then s_m10_isOfPiece_15 M else (if a0 = (3 : Int32) then s_m10_isOfPiece_15 M else (if ¬ a0 = (4 : Int32) then s_m10_isOfPiece_20 (0 : Int32) M else s_m10_isOfPiece_15 M)))
set_option maxRecDepth 100000 in
set_option maxHeartbeats 4000000 in
theorem w_m10_isOfPiece_20 {V : Ev} {C : Cx} {n0 : Nat} (hC : Cok V C y_m10_isOfPiece.cls b_m10_isOfPiece 1 n0 (some .boolean) y_m10_isOfPiece.name) (hR : cR C = rm_m10_isOfPiece)  : ∀ (t0 : Int32) (M : Mm), Sm V C 1 n0 n0 (qI V C) 20 [] [.int t0] M (s_m10_isOfPiece_20 t0 M) := by
  intro t0 M
  unfold s_m10_isOfPiece_20
  exact Sm.zret hC d_m10_isOfPiece_20 rfl (Nat.sub_self _)
set_option maxRecDepth 100000 in
set_option maxHeartbeats 4000000 in
theorem w_m10_isOfPiece_15 {V : Ev} {C : Cx} {n0 : Nat} (hC : Cok V C y_m10_isOfPiece.cls b_m10_isOfPiece 1 n0 (some .boolean) y_m10_isOfPiece.name) (hR : cR C = rm_m10_isOfPiece)  : ∀  (M : Mm), Sm V C 1 n0 n0 (qI V C) 15 [] [] M (s_m10_isOfPiece_15 M) := by
  intro M
  unfold s_m10_isOfPiece_15
  refine Sm.iconst (v := 1) hC d_m10_isOfPiece_15 (by decide) ?_
  refine Sm.goto (tgt := 20) hC d_m10_isOfPiece_16 (by decide) ?_
  exact w_m10_isOfPiece_20 hC hR (1 : Int32) M
set_option maxRecDepth 100000 in
set_option maxHeartbeats 4000000 in
theorem ok_m10_isOfPiece {l : Launch} {V : Ev} {M M' : Mm} {r : Int32} {a0 : Int32} (h : s_m10_isOfPiece a0 M = some (r, M')) : Met l y_m10_isOfPiece (Cond.code y_m10_isOfPiece b_m10_isOfPiece 1 (some .boolean) :: TW) rm_m10_isOfPiece (va_Pc [.int a0] (Wd V M)) (QC V (some (.int r)) M' 0) 0 0 (Af V) := by
  refine met_of (fun x : Int32 => some (.int x)) (lv0 := [(0, .int a0)]) (by decide) (by simp [lg_sl, cat_rv, cat_i, cat_l, cat_f]) (by simp [lv_args, cat_rv, cat_i, cat_l, cat_f]) (fun C hl hR hC => ?_) h
  subst hl
  generalize mN M = n0 at hC ⊢
  unfold s_m10_isOfPiece
  refine Sm.iload_n hC d_m10_isOfPiece_0 rfl 0 rfl ?_
  refine Sm.iconst (v := 2) hC d_m10_isOfPiece_1 (by decide) ?_
  refine Sm.icmp_eq (tgt := 15) hC d_m10_isOfPiece_2 (by decide) ?_ ?_
  · refine Sm.sub [] rfl ?_
    exact w_m10_isOfPiece_15 hC hR M
  · refine Sm.iload_n hC d_m10_isOfPiece_5 rfl 0 rfl ?_
    refine Sm.iconst (v := 3) hC d_m10_isOfPiece_6 (by decide) ?_
    refine Sm.icmp_eq (tgt := 15) hC d_m10_isOfPiece_7 (by decide) ?_ ?_
    · refine Sm.sub [] rfl ?_
      exact w_m10_isOfPiece_15 hC hR M
    · refine Sm.iload_n hC d_m10_isOfPiece_10 rfl 0 rfl ?_
      refine Sm.iconst (v := 4) hC d_m10_isOfPiece_11 (by decide) ?_
      refine Sm.icmp_ne (tgt := 19) hC d_m10_isOfPiece_12 (by decide) ?_ ?_
      · refine Sm.iconst (v := 0) hC d_m10_isOfPiece_19 (by decide) ?_
        refine Sm.sub [] rfl ?_
        exact w_m10_isOfPiece_20 hC hR (0 : Int32) M
      · refine Sm.sub [] rfl ?_
        exact w_m10_isOfPiece_15 hC hR M
/-! NewsWire.isPiece(I)Z -/
theorem fl_m10_92 : FL "NewsWire" 92 10 11 0 false .int := ⟨_, _, _, _, rfl, in_c10, ty_c10, nm_c10, by decide, rfl, tw_i 368 (by decide +kernel), rfl, rfl, rfl, rfl⟩
abbrev b_m10_isPiece : ByteArray := prog_1_method_6_code
def y_m10_isPiece : MethodName := ⟨"NewsWire", "isPiece", "(I)Z"⟩
def rm_m10_isPiece : Room := { frames := 1, cells := 0, slots := 0, locals := 60 }
theorem cw_m10_isPiece : CW y_m10_isPiece b_m10_isPiece 2 (some .boolean) 1 := ⟨tw_i 55 (by decide +kernel), tw_i 439 (by decide +kernel), by decide, by decide, by decide +kernel⟩
theorem d_m10_isPiece_0 : decode b_m10_isPiece 0 = .ok (.iload_n 1, 1) := by decide +kernel
theorem d_m10_isPiece_1 : decode b_m10_isPiece 1 = .ok (.ifCond .lt 15, 3) := by decide +kernel
theorem d_m10_isPiece_4 : decode b_m10_isPiece 4 = .ok (.iload_n 1, 1) := by decide +kernel
theorem d_m10_isPiece_5 : decode b_m10_isPiece 5 = .ok (.aload_n 0, 1) := by decide +kernel
theorem d_m10_isPiece_6 : decode b_m10_isPiece 6 = .ok (.getfield 92, 3) := by decide +kernel
theorem d_m10_isPiece_9 : decode b_m10_isPiece 9 = .ok (.if_icmp .ge 7, 3) := by decide +kernel
theorem d_m10_isPiece_12 : decode b_m10_isPiece 12 = .ok (.iconst 1, 1) := by decide +kernel
theorem d_m10_isPiece_13 : decode b_m10_isPiece 13 = .ok (.goto 4, 3) := by decide +kernel
theorem d_m10_isPiece_16 : decode b_m10_isPiece 16 = .ok (.iconst 0, 1) := by decide +kernel
theorem d_m10_isPiece_17 : decode b_m10_isPiece 17 = .ok (.ireturn, 1) := by decide +kernel
def s_m10_isPiece_17  (t0 : Int32) (M : Mm) : Option (Int32 × Mm) := rz t0 (some (t0, M))
def s_m10_isPiece_16   (M : Mm) : Option (Int32 × Mm) := s_m10_isPiece_17 (0 : Int32) M
def s_m10_isPiece (r0 : Nat) (a1 : Int32) (M : Mm) : Option (Int32 × Mm) := (if a1 < 0 then s_m10_isPiece_16 M else gI M r0 20 11 (fun v1 => (if v1 ≤ a1 then s_m10_isPiece_16 M else s_m10_isPiece_17 (1 : Int32) M)))
set_option maxRecDepth 100000 in
set_option maxHeartbeats 4000000 in
theorem w_m10_isPiece_17 {V : Ev} {C : Cx} {n0 : Nat} (hC : Cok V C y_m10_isPiece.cls b_m10_isPiece 2 n0 (some .boolean) y_m10_isPiece.name) (hR : cR C = rm_m10_isPiece)  : ∀ (t0 : Int32) (M : Mm), Sm V C 2 n0 n0 (qI V C) 17 [] [.int t0] M (s_m10_isPiece_17 t0 M) := by
  intro t0 M
  unfold s_m10_isPiece_17
  exact Sm.zret hC d_m10_isPiece_17 rfl (Nat.sub_self _)
set_option maxRecDepth 100000 in
set_option maxHeartbeats 4000000 in
theorem w_m10_isPiece_16 {V : Ev} {C : Cx} {n0 : Nat} (hC : Cok V C y_m10_isPiece.cls b_m10_isPiece 2 n0 (some .boolean) y_m10_isPiece.name) (hR : cR C = rm_m10_isPiece)  : ∀  (M : Mm), Sm V C 2 n0 n0 (qI V C) 16 [] [] M (s_m10_isPiece_16 M) := by
  intro M
  unfold s_m10_isPiece_16
  refine Sm.iconst (v := 0) hC d_m10_isPiece_16 (by decide) ?_
  exact w_m10_isPiece_17 hC hR (0 : Int32) M
set_option maxRecDepth 100000 in
set_option maxHeartbeats 4000000 in
theorem ok_m10_isPiece {l : Launch} {V : Ev} {M M' : Mm} {r : Int32} {r0 : Nat} {a1 : Int32} (h : s_m10_isPiece r0 a1 M = some (r, M')) : Met l y_m10_isPiece (Cond.code y_m10_isPiece b_m10_isPiece 2 (some .boolean) :: TW) rm_m10_isPiece (va_Pc [rv V.1 r0, .int a1] (Wd V M)) (QC V (some (.int r)) M' 0) 0 0 (Af V) := by
  refine met_of (fun x : Int32 => some (.int x)) (lv0 := [(0, rv V.1 r0), (1, .int a1)]) (by decide) (by simp [lg_sl, cat_rv, cat_i, cat_l, cat_f]) (by simp [lv_args, cat_rv, cat_i, cat_l, cat_f]) (fun C hl hR hC => ?_) h
  subst hl
  generalize mN M = n0 at hC ⊢
  unfold s_m10_isPiece
  refine Sm.iload_n hC d_m10_isPiece_0 rfl 1 rfl ?_
  refine Sm.if_lt (tgt := 16) hC d_m10_isPiece_1 (by decide) ?_ ?_
  · refine Sm.sub [] rfl ?_
    exact w_m10_isPiece_16 hC hR M
  · refine Sm.iload_n hC d_m10_isPiece_4 rfl 1 rfl ?_
    refine Sm.aload_n hC d_m10_isPiece_5 rfl 0 rfl ?_
    refine Sm.getI hC fl_m10_92 rfl d_m10_isPiece_6 (fun v1 => ?_)
    refine Sm.icmp_ge (tgt := 16) hC d_m10_isPiece_9 (by decide) ?_ ?_
    · refine Sm.sub [] rfl ?_
      exact w_m10_isPiece_16 hC hR M
    · refine Sm.iconst (v := 1) hC d_m10_isPiece_12 (by decide) ?_
      refine Sm.goto (tgt := 17) hC d_m10_isPiece_13 (by decide) ?_
      refine Sm.sub [] rfl ?_
      exact w_m10_isPiece_17 hC hR (1 : Int32) M
/-! NewsWire.refusalOfTarget(IIILNewsWire$Piece;I)I -/
theorem fl_m10_101 : FL "NewsWire" 101 3 2 0 false .int := ⟨_, _, _, _, rfl, in_c3, ty_c3, nm_c3, by decide, rfl, tw_i 303 (by decide +kernel), rfl, rfl, rfl, rfl⟩
theorem fl_m10_120 : FL "NewsWire" 120 3 5 0 false .int := ⟨_, _, _, _, rfl, in_c3, ty_c3, nm_c3, by decide, rfl, tw_i 310 (by decide +kernel), rfl, rfl, rfl, rfl⟩
theorem fl_m10_95 : FL "NewsWire" 95 3 1 0 false .int := ⟨_, _, _, _, rfl, in_c3, ty_c3, nm_c3, by decide, rfl, tw_i 300 (by decide +kernel), rfl, rfl, rfl, rfl⟩
abbrev b_m10_refusalOfTarget : ByteArray := prog_1_method_14_code
def y_m10_refusalOfTarget : MethodName := ⟨"NewsWire", "refusalOfTarget", "(IIILNewsWire$Piece;I)I"⟩
def rm_m10_refusalOfTarget : Room := { frames := 2, cells := 0, slots := 0, locals := 80 }
theorem cw_m10_refusalOfTarget : CW y_m10_refusalOfTarget b_m10_refusalOfTarget 6 (some .int) 5 := ⟨tw_i 55 (by decide +kernel), tw_i 446 (by decide +kernel), by decide, by decide, by decide +kernel⟩
theorem d_m10_refusalOfTarget_0 : decode b_m10_refusalOfTarget 0 = .ok (.aload_n 3, 1) := by decide +kernel
theorem d_m10_refusalOfTarget_1 : decode b_m10_refusalOfTarget 1 = .ok (.getfield 101, 3) := by decide +kernel
theorem d_m10_refusalOfTarget_4 : decode b_m10_refusalOfTarget 4 = .ok (.iload_n 1, 1) := by decide +kernel
theorem d_m10_refusalOfTarget_5 : decode b_m10_refusalOfTarget 5 = .ok (.if_icmp .eq 6, 3) := by decide +kernel
theorem d_m10_refusalOfTarget_8 : decode b_m10_refusalOfTarget 8 = .ok (.bipush (-5), 2) := by decide +kernel
theorem d_m10_refusalOfTarget_10 : decode b_m10_refusalOfTarget 10 = .ok (.ireturn, 1) := by decide +kernel
theorem d_m10_refusalOfTarget_11 : decode b_m10_refusalOfTarget 11 = .ok (.iload_n 0, 1) := by decide +kernel
theorem d_m10_refusalOfTarget_12 : decode b_m10_refusalOfTarget 12 = .ok (.iconst 4, 1) := by decide +kernel
theorem d_m10_refusalOfTarget_13 : decode b_m10_refusalOfTarget 13 = .ok (.if_icmp .ne 18, 3) := by decide +kernel
theorem d_m10_refusalOfTarget_16 : decode b_m10_refusalOfTarget 16 = .ok (.aload_n 3, 1) := by decide +kernel
theorem d_m10_refusalOfTarget_17 : decode b_m10_refusalOfTarget 17 = .ok (.getfield 95, 3) := by decide +kernel
theorem d_m10_refusalOfTarget_20 : decode b_m10_refusalOfTarget 20 = .ok (.iconst 4, 1) := by decide +kernel
theorem d_m10_refusalOfTarget_21 : decode b_m10_refusalOfTarget 21 = .ok (.if_icmp .ne 8, 3) := by decide +kernel
theorem d_m10_refusalOfTarget_24 : decode b_m10_refusalOfTarget 24 = .ok (.bipush (-5), 2) := by decide +kernel
theorem d_m10_refusalOfTarget_26 : decode b_m10_refusalOfTarget 26 = .ok (.goto 4, 3) := by decide +kernel
theorem d_m10_refusalOfTarget_29 : decode b_m10_refusalOfTarget 29 = .ok (.iconst 0, 1) := by decide +kernel
theorem d_m10_refusalOfTarget_30 : decode b_m10_refusalOfTarget 30 = .ok (.ireturn, 1) := by decide +kernel
theorem d_m10_refusalOfTarget_31 : decode b_m10_refusalOfTarget 31 = .ok (.aload_n 3, 1) := by decide +kernel
theorem d_m10_refusalOfTarget_32 : decode b_m10_refusalOfTarget 32 = .ok (.invokevirtual 154, 3) := by decide +kernel
theorem d_m10_refusalOfTarget_35 : decode b_m10_refusalOfTarget 35 = .ok (.ifCond .ne 6, 3) := by decide +kernel
theorem d_m10_refusalOfTarget_38 : decode b_m10_refusalOfTarget 38 = .ok (.bipush (-5), 2) := by decide +kernel
theorem d_m10_refusalOfTarget_40 : decode b_m10_refusalOfTarget 40 = .ok (.ireturn, 1) := by decide +kernel
theorem d_m10_refusalOfTarget_41 : decode b_m10_refusalOfTarget 41 = .ok (.iload_n 0, 1) := by decide +kernel
theorem d_m10_refusalOfTarget_42 : decode b_m10_refusalOfTarget 42 = .ok (.iconst 3, 1) := by decide +kernel
theorem d_m10_refusalOfTarget_43 : decode b_m10_refusalOfTarget 43 = .ok (.if_icmp .ne 12, 3) := by decide +kernel
theorem d_m10_refusalOfTarget_46 : decode b_m10_refusalOfTarget 46 = .ok (.aload_n 3, 1) := by decide +kernel
theorem d_m10_refusalOfTarget_47 : decode b_m10_refusalOfTarget 47 = .ok (.getfield 120, 3) := by decide +kernel
theorem d_m10_refusalOfTarget_50 : decode b_m10_refusalOfTarget 50 = .ok (.iload_n 2, 1) := by decide +kernel
theorem d_m10_refusalOfTarget_51 : decode b_m10_refusalOfTarget 51 = .ok (.isub, 1) := by decide +kernel
theorem d_m10_refusalOfTarget_52 : decode b_m10_refusalOfTarget 52 = .ok (.goto 7, 3) := by decide +kernel
theorem d_m10_refusalOfTarget_55 : decode b_m10_refusalOfTarget 55 = .ok (.aload_n 3, 1) := by decide +kernel
theorem d_m10_refusalOfTarget_56 : decode b_m10_refusalOfTarget 56 = .ok (.getfield 120, 3) := by decide +kernel
theorem d_m10_refusalOfTarget_59 : decode b_m10_refusalOfTarget 59 = .ok (.istore 5, 2) := by decide +kernel
theorem d_m10_refusalOfTarget_61 : decode b_m10_refusalOfTarget 61 = .ok (.iload 4, 2) := by decide +kernel
theorem d_m10_refusalOfTarget_63 : decode b_m10_refusalOfTarget 63 = .ok (.ifCond .lt 10, 3) := by decide +kernel
theorem d_m10_refusalOfTarget_66 : decode b_m10_refusalOfTarget 66 = .ok (.iload 4, 2) := by decide +kernel
theorem d_m10_refusalOfTarget_68 : decode b_m10_refusalOfTarget 68 = .ok (.iload 5, 2) := by decide +kernel
theorem d_m10_refusalOfTarget_70 : decode b_m10_refusalOfTarget 70 = .ok (.if_icmp .le 8, 3) := by decide +kernel
theorem d_m10_refusalOfTarget_73 : decode b_m10_refusalOfTarget 73 = .ok (.bipush (-7), 2) := by decide +kernel
theorem d_m10_refusalOfTarget_75 : decode b_m10_refusalOfTarget 75 = .ok (.goto 4, 3) := by decide +kernel
theorem d_m10_refusalOfTarget_78 : decode b_m10_refusalOfTarget 78 = .ok (.iconst 0, 1) := by decide +kernel
theorem d_m10_refusalOfTarget_79 : decode b_m10_refusalOfTarget 79 = .ok (.ireturn, 1) := by decide +kernel
def s_m10_refusalOfTarget_79  (t0 : Int32) (M : Mm) : Option (Int32 × Mm) := some (t0, M)
def s_m10_refusalOfTarget_73   (M : Mm) : Option (Int32 × Mm) := s_m10_refusalOfTarget_79 (-7 : Int32) M
def s_m10_refusalOfTarget_59  (x4 : Int32) (t0 : Int32) (M : Mm) : Option (Int32 × Mm) := (if x4 < 0 then s_m10_refusalOfTarget_73 M else (if x4 ≤ t0 then s_m10_refusalOfTarget_79 (0 : Int32) M else s_m10_refusalOfTarget_73 M))
def s_m10_refusalOfTarget_30  (t0 : Int32) (M : Mm) : Option (Int32 × Mm) := some (t0, M)
def s_m10_refusalOfTarget (a0 : Int32) (a1 : Int32) (a2 : Int32) (r3 : Nat) (a4 : Int32) (M : Mm) : Option (Int32 × Mm) := gI M r3 13 2 (fun v1 => (if v1 = a1 then (if ¬ a0 = (4 : Int32) then cl (has M r3 13) (s_m3_isOfText r3 M) (fun v2 M3 => (if ¬ v2 = 0 then (if ¬ a0 = (3 : Int32) then gI M3 r3 13 5 (fun v4 => s_m10_refusalOfTarget_59 a4 v4 M3) else gI M3 r3 13 5 (fun v5 => s_m10_refusalOfTarget_59 a4 (v5 - a2) M3)) else some ((-5 : Int32), M3))) else gI M r3 13 1 (fun v6 => (if ¬ v6 = (4 : Int32) then s_m10_refusalOfTarget_30 (0 : Int32) M else s_m10_refusalOfTarget_30 (-5 : Int32) M))) else some ((-5 : Int32), M)))
set_option maxRecDepth 100000 in
set_option maxHeartbeats 4000000 in
theorem w_m10_refusalOfTarget_79 {V : Ev} {C : Cx} {n0 : Nat} (hC : Cok V C y_m10_refusalOfTarget.cls b_m10_refusalOfTarget 6 n0 (some .int) y_m10_refusalOfTarget.name) (hR : cR C = rm_m10_refusalOfTarget)  : ∀ (t0 : Int32) (M : Mm), Sm V C 6 n0 n0 (qI V C) 79 [] [.int t0] M (s_m10_refusalOfTarget_79 t0 M) := by
  intro t0 M
  unfold s_m10_refusalOfTarget_79
  exact Sm.iret hC d_m10_refusalOfTarget_79 rfl (Nat.sub_self _)
set_option maxRecDepth 100000 in
set_option maxHeartbeats 4000000 in
theorem w_m10_refusalOfTarget_73 {V : Ev} {C : Cx} {n0 : Nat} (hC : Cok V C y_m10_refusalOfTarget.cls b_m10_refusalOfTarget 6 n0 (some .int) y_m10_refusalOfTarget.name) (hR : cR C = rm_m10_refusalOfTarget)  : ∀  (M : Mm), Sm V C 6 n0 n0 (qI V C) 73 [] [] M (s_m10_refusalOfTarget_73 M) := by
  intro M
  unfold s_m10_refusalOfTarget_73
  refine Sm.bipush (v := -7) hC d_m10_refusalOfTarget_73 (by decide) ?_
  refine Sm.goto (tgt := 79) hC d_m10_refusalOfTarget_75 (by decide) ?_
  exact w_m10_refusalOfTarget_79 hC hR (-7 : Int32) M
set_option maxRecDepth 100000 in
set_option maxHeartbeats 4000000 in
theorem w_m10_refusalOfTarget_59 {V : Ev} {C : Cx} {n0 : Nat} (hC : Cok V C y_m10_refusalOfTarget.cls b_m10_refusalOfTarget 6 n0 (some .int) y_m10_refusalOfTarget.name) (hR : cR C = rm_m10_refusalOfTarget)  : ∀ (x4 : Int32) (t0 : Int32) (M : Mm), Sm V C 6 n0 n0 (qI V C) 59 [(4, .int x4)] [.int t0] M (s_m10_refusalOfTarget_59 x4 t0 M) := by
  intro x4 t0 M
  unfold s_m10_refusalOfTarget_59
  refine Sm.istore (lv' := [(5, .int t0), (4, .int x4)]) hC d_m10_refusalOfTarget_59 (by decide) rfl ?_
  refine Sm.iload hC d_m10_refusalOfTarget_61 1 rfl ?_
  refine Sm.if_lt (tgt := 73) hC d_m10_refusalOfTarget_63 (by decide) ?_ ?_
  · refine Sm.sub [] rfl ?_
    exact w_m10_refusalOfTarget_73 hC hR M
  · refine Sm.iload hC d_m10_refusalOfTarget_66 1 rfl ?_
    refine Sm.iload hC d_m10_refusalOfTarget_68 0 rfl ?_
    refine Sm.icmp_le (tgt := 78) hC d_m10_refusalOfTarget_70 (by decide) ?_ ?_
    · refine Sm.iconst (v := 0) hC d_m10_refusalOfTarget_78 (by decide) ?_
      refine Sm.sub [] rfl ?_
      exact w_m10_refusalOfTarget_79 hC hR (0 : Int32) M
    · refine Sm.sub [] rfl ?_
      exact w_m10_refusalOfTarget_73 hC hR M
set_option maxRecDepth 100000 in
set_option maxHeartbeats 4000000 in
theorem w_m10_refusalOfTarget_30 {V : Ev} {C : Cx} {n0 : Nat} (hC : Cok V C y_m10_refusalOfTarget.cls b_m10_refusalOfTarget 6 n0 (some .int) y_m10_refusalOfTarget.name) (hR : cR C = rm_m10_refusalOfTarget)  : ∀ (t0 : Int32) (M : Mm), Sm V C 6 n0 n0 (qI V C) 30 [] [.int t0] M (s_m10_refusalOfTarget_30 t0 M) := by
  intro t0 M
  unfold s_m10_refusalOfTarget_30
  exact Sm.iret hC d_m10_refusalOfTarget_30 rfl (Nat.sub_self _)
set_option maxRecDepth 100000 in
set_option maxHeartbeats 4000000 in
theorem ok_m10_refusalOfTarget {l : Launch} {V : Ev} {M M' : Mm} {r : Int32} {a0 : Int32} {a1 : Int32} {a2 : Int32} {r3 : Nat} {a4 : Int32} (h : s_m10_refusalOfTarget a0 a1 a2 r3 a4 M = some (r, M')) : Met l y_m10_refusalOfTarget (Cond.code y_m10_refusalOfTarget b_m10_refusalOfTarget 6 (some .int) :: TW) rm_m10_refusalOfTarget (va_Pc [.int a0, .int a1, .int a2, rv V.1 r3, .int a4] (Wd V M)) (QC V (some (.int r)) M' 0) 0 0 (Af V) := by
  refine met_of (fun x : Int32 => some (.int x)) (lv0 := [(0, .int a0), (1, .int a1), (2, .int a2), (3, rv V.1 r3), (4, .int a4)]) (by decide) (by simp [lg_sl, cat_rv, cat_i, cat_l, cat_f]) (by simp [lv_args, cat_rv, cat_i, cat_l, cat_f]) (fun C hl hR hC => ?_) h
  subst hl
  generalize mN M = n0 at hC ⊢
  unfold s_m10_refusalOfTarget
  refine Sm.aload_n hC d_m10_refusalOfTarget_0 rfl 3 rfl ?_
  refine Sm.getI hC fl_m10_101 rfl d_m10_refusalOfTarget_1 (fun v1 => ?_)
  refine Sm.iload_n hC d_m10_refusalOfTarget_4 rfl 1 rfl ?_
  refine Sm.icmp_eq (tgt := 11) hC d_m10_refusalOfTarget_5 (by decide) ?_ ?_
  · refine Sm.iload_n hC d_m10_refusalOfTarget_11 rfl 0 rfl ?_
    refine Sm.iconst (v := 4) hC d_m10_refusalOfTarget_12 (by decide) ?_
    refine Sm.icmp_ne (tgt := 31) hC d_m10_refusalOfTarget_13 (by decide) ?_ ?_
    · refine Sm.aload_n hC d_m10_refusalOfTarget_31 rfl 3 rfl ?_
      refine Sm.callVi 3 (As := []) (st := []) hC hR cw_m3_isOfText (tw_i 447 (by decide +kernel)) (tw_i 448 (by decide +kernel)) (tw_i 449 (by decide +kernel)) ⟨_, rfl, rfl⟩ (fun r9 M9 h9 => ok_m3_isOfText h9) rfl rfl (RW.of ⟨rfl, rfl, by decide, by decide⟩) (by simp) d_m10_refusalOfTarget_32 (fun v2 M3 => ?_)
      refine Sm.if_ne (tgt := 41) hC d_m10_refusalOfTarget_35 (by decide) ?_ ?_
      · refine Sm.iload_n hC d_m10_refusalOfTarget_41 rfl 0 rfl ?_
        refine Sm.iconst (v := 3) hC d_m10_refusalOfTarget_42 (by decide) ?_
        refine Sm.icmp_ne (tgt := 55) hC d_m10_refusalOfTarget_43 (by decide) ?_ ?_
        · refine Sm.aload_n hC d_m10_refusalOfTarget_55 rfl 3 rfl ?_
          refine Sm.getI hC fl_m10_120 rfl d_m10_refusalOfTarget_56 (fun v4 => ?_)
          refine Sm.sub [4] rfl ?_
          exact w_m10_refusalOfTarget_59 hC hR a4 v4 M3
        · refine Sm.aload_n hC d_m10_refusalOfTarget_46 rfl 3 rfl ?_
          refine Sm.getI hC fl_m10_120 rfl d_m10_refusalOfTarget_47 (fun v5 => ?_)
          refine Sm.iload_n hC d_m10_refusalOfTarget_50 rfl 2 rfl ?_
          refine Sm.isub hC d_m10_refusalOfTarget_51 ?_
          refine Sm.goto (tgt := 59) hC d_m10_refusalOfTarget_52 (by decide) ?_
          refine Sm.sub [4] rfl ?_
          exact w_m10_refusalOfTarget_59 hC hR a4 (v5 - a2) M3
      · refine Sm.bipush (v := -5) hC d_m10_refusalOfTarget_38 (by decide) ?_
        exact Sm.iret hC d_m10_refusalOfTarget_40 rfl (Nat.sub_self _)
    · refine Sm.aload_n hC d_m10_refusalOfTarget_16 rfl 3 rfl ?_
      refine Sm.getI hC fl_m10_95 rfl d_m10_refusalOfTarget_17 (fun v6 => ?_)
      refine Sm.iconst (v := 4) hC d_m10_refusalOfTarget_20 (by decide) ?_
      refine Sm.icmp_ne (tgt := 29) hC d_m10_refusalOfTarget_21 (by decide) ?_ ?_
      · refine Sm.iconst (v := 0) hC d_m10_refusalOfTarget_29 (by decide) ?_
        refine Sm.sub [] rfl ?_
        exact w_m10_refusalOfTarget_30 hC hR (0 : Int32) M
      · refine Sm.bipush (v := -5) hC d_m10_refusalOfTarget_24 (by decide) ?_
        refine Sm.goto (tgt := 30) hC d_m10_refusalOfTarget_26 (by decide) ?_
        refine Sm.sub [] rfl ?_
        exact w_m10_refusalOfTarget_30 hC hR (-5 : Int32) M
  · refine Sm.bipush (v := -5) hC d_m10_refusalOfTarget_8 (by decide) ?_
    exact Sm.iret hC d_m10_refusalOfTarget_10 rfl (Nat.sub_self _)
/-! NewsWire.refusalOfPiece(IIII)I -/
theorem fl_m10_65 : FL "NewsWire" 65 10 8 2 true (.object "NewsWire$Row") := ⟨_, _, _, _, rfl, in_c10, ty_c10, nm_c10, by decide, rfl, tw_i 365 (by decide +kernel), rfl, rfl, rfl, rfl⟩
theorem fl_m10_145 : FL "NewsWire" 145 4 1 0 false .int := ⟨_, _, _, _, rfl, in_c4, ty_c4, nm_c4, by decide, rfl, tw_i 252 (by decide +kernel), rfl, rfl, rfl, rfl⟩
theorem fl_m10_17 : FL "NewsWire" 17 10 1 2 true (.array (.object "NewsWire$Piece")) := ⟨_, _, _, _, rfl, in_c10, ty_c10, nm_c10, by decide, rfl, tw_i 358 (by decide +kernel), rfl, rfl, rfl, rfl⟩
abbrev b_m10_refusalOfPiece : ByteArray := prog_1_method_13_code
def y_m10_refusalOfPiece : MethodName := ⟨"NewsWire", "refusalOfPiece", "(IIII)I"⟩
def rm_m10_refusalOfPiece : Room := { frames := 3, cells := 0, slots := 0, locals := 105 }
theorem cw_m10_refusalOfPiece : CW y_m10_refusalOfPiece b_m10_refusalOfPiece 8 (some .int) 4 := ⟨tw_i 55 (by decide +kernel), tw_i 425 (by decide +kernel), by decide, by decide, by decide +kernel⟩
theorem d_m10_refusalOfPiece_0 : decode b_m10_refusalOfPiece 0 = .ok (.aload_n 0, 1) := by decide +kernel
theorem d_m10_refusalOfPiece_1 : decode b_m10_refusalOfPiece 1 = .ok (.getfield 65, 3) := by decide +kernel
theorem d_m10_refusalOfPiece_4 : decode b_m10_refusalOfPiece 4 = .ok (.invokevirtual 138, 3) := by decide +kernel
theorem d_m10_refusalOfPiece_7 : decode b_m10_refusalOfPiece 7 = .ok (.ifCond .eq 6, 3) := by decide +kernel
theorem d_m10_refusalOfPiece_10 : decode b_m10_refusalOfPiece 10 = .ok (.bipush (-2), 2) := by decide +kernel
theorem d_m10_refusalOfPiece_12 : decode b_m10_refusalOfPiece 12 = .ok (.ireturn, 1) := by decide +kernel
theorem d_m10_refusalOfPiece_13 : decode b_m10_refusalOfPiece 13 = .ok (.iload_n 1, 1) := by decide +kernel
theorem d_m10_refusalOfPiece_14 : decode b_m10_refusalOfPiece 14 = .ok (.bipush 100, 2) := by decide +kernel
theorem d_m10_refusalOfPiece_16 : decode b_m10_refusalOfPiece 16 = .ok (.idiv, 1) := by decide +kernel
theorem d_m10_refusalOfPiece_17 : decode b_m10_refusalOfPiece 17 = .ok (.istore 5, 2) := by decide +kernel
theorem d_m10_refusalOfPiece_19 : decode b_m10_refusalOfPiece 19 = .ok (.iload_n 1, 1) := by decide +kernel
theorem d_m10_refusalOfPiece_20 : decode b_m10_refusalOfPiece 20 = .ok (.ifCond .lt 21, 3) := by decide +kernel
theorem d_m10_refusalOfPiece_23 : decode b_m10_refusalOfPiece 23 = .ok (.iload_n 1, 1) := by decide +kernel
theorem d_m10_refusalOfPiece_24 : decode b_m10_refusalOfPiece 24 = .ok (.invokestatic 98, 3) := by decide +kernel
theorem d_m10_refusalOfPiece_27 : decode b_m10_refusalOfPiece 27 = .ok (.bipush 8, 2) := by decide +kernel
theorem d_m10_refusalOfPiece_29 : decode b_m10_refusalOfPiece 29 = .ok (.if_icmp .ge 12, 3) := by decide +kernel
theorem d_m10_refusalOfPiece_32 : decode b_m10_refusalOfPiece 32 = .ok (.iload_n 1, 1) := by decide +kernel
theorem d_m10_refusalOfPiece_33 : decode b_m10_refusalOfPiece 33 = .ok (.bipush 10, 2) := by decide +kernel
theorem d_m10_refusalOfPiece_35 : decode b_m10_refusalOfPiece 35 = .ok (.irem, 1) := by decide +kernel
theorem d_m10_refusalOfPiece_36 : decode b_m10_refusalOfPiece 36 = .ok (.bipush 6, 2) := by decide +kernel
theorem d_m10_refusalOfPiece_38 : decode b_m10_refusalOfPiece 38 = .ok (.if_icmp .lt 6, 3) := by decide +kernel
theorem d_m10_refusalOfPiece_41 : decode b_m10_refusalOfPiece 41 = .ok (.bipush (-3), 2) := by decide +kernel
theorem d_m10_refusalOfPiece_43 : decode b_m10_refusalOfPiece 43 = .ok (.ireturn, 1) := by decide +kernel
theorem d_m10_refusalOfPiece_44 : decode b_m10_refusalOfPiece 44 = .ok (.iload 5, 2) := by decide +kernel
theorem d_m10_refusalOfPiece_46 : decode b_m10_refusalOfPiece 46 = .ok (.invokestatic 142, 3) := by decide +kernel
theorem d_m10_refusalOfPiece_49 : decode b_m10_refusalOfPiece 49 = .ok (.ifCond .eq 14, 3) := by decide +kernel
theorem d_m10_refusalOfPiece_52 : decode b_m10_refusalOfPiece 52 = .ok (.aload_n 0, 1) := by decide +kernel
theorem d_m10_refusalOfPiece_53 : decode b_m10_refusalOfPiece 53 = .ok (.iload_n 3, 1) := by decide +kernel
theorem d_m10_refusalOfPiece_54 : decode b_m10_refusalOfPiece 54 = .ok (.invokevirtual 135, 3) := by decide +kernel
theorem d_m10_refusalOfPiece_57 : decode b_m10_refusalOfPiece 57 = .ok (.ifCond .ne 6, 3) := by decide +kernel
theorem d_m10_refusalOfPiece_60 : decode b_m10_refusalOfPiece 60 = .ok (.bipush (-3), 2) := by decide +kernel
theorem d_m10_refusalOfPiece_62 : decode b_m10_refusalOfPiece 62 = .ok (.ireturn, 1) := by decide +kernel
theorem d_m10_refusalOfPiece_63 : decode b_m10_refusalOfPiece 63 = .ok (.iload_n 2, 1) := by decide +kernel
theorem d_m10_refusalOfPiece_64 : decode b_m10_refusalOfPiece 64 = .ok (.bipush 100, 2) := by decide +kernel
theorem d_m10_refusalOfPiece_66 : decode b_m10_refusalOfPiece 66 = .ok (.irem, 1) := by decide +kernel
theorem d_m10_refusalOfPiece_67 : decode b_m10_refusalOfPiece 67 = .ok (.istore 6, 2) := by decide +kernel
theorem d_m10_refusalOfPiece_69 : decode b_m10_refusalOfPiece 69 = .ok (.iload 5, 2) := by decide +kernel
theorem d_m10_refusalOfPiece_71 : decode b_m10_refusalOfPiece 71 = .ok (.iconst 5, 1) := by decide +kernel
theorem d_m10_refusalOfPiece_72 : decode b_m10_refusalOfPiece 72 = .ok (.if_icmp .gt 41, 3) := by decide +kernel
theorem d_m10_refusalOfPiece_75 : decode b_m10_refusalOfPiece 75 = .ok (.iload_n 2, 1) := by decide +kernel
theorem d_m10_refusalOfPiece_76 : decode b_m10_refusalOfPiece 76 = .ok (.ifCond .lt 37, 3) := by decide +kernel
theorem d_m10_refusalOfPiece_79 : decode b_m10_refusalOfPiece 79 = .ok (.iload_n 2, 1) := by decide +kernel
theorem d_m10_refusalOfPiece_80 : decode b_m10_refusalOfPiece 80 = .ok (.bipush 100, 2) := by decide +kernel
theorem d_m10_refusalOfPiece_82 : decode b_m10_refusalOfPiece 82 = .ok (.idiv, 1) := by decide +kernel
theorem d_m10_refusalOfPiece_83 : decode b_m10_refusalOfPiece 83 = .ok (.bipush 9, 2) := by decide +kernel
theorem d_m10_refusalOfPiece_85 : decode b_m10_refusalOfPiece 85 = .ok (.if_icmp .gt 28, 3) := by decide +kernel
theorem d_m10_refusalOfPiece_88 : decode b_m10_refusalOfPiece 88 = .ok (.iload 6, 2) := by decide +kernel
theorem d_m10_refusalOfPiece_90 : decode b_m10_refusalOfPiece 90 = .ok (.iconst 1, 1) := by decide +kernel
theorem d_m10_refusalOfPiece_91 : decode b_m10_refusalOfPiece 91 = .ok (.if_icmp .lt 22, 3) := by decide +kernel
theorem d_m10_refusalOfPiece_94 : decode b_m10_refusalOfPiece 94 = .ok (.iload 6, 2) := by decide +kernel
theorem d_m10_refusalOfPiece_96 : decode b_m10_refusalOfPiece 96 = .ok (.bipush 12, 2) := by decide +kernel
theorem d_m10_refusalOfPiece_98 : decode b_m10_refusalOfPiece 98 = .ok (.if_icmp .gt 15, 3) := by decide +kernel
theorem d_m10_refusalOfPiece_101 : decode b_m10_refusalOfPiece 101 = .ok (.iload 6, 2) := by decide +kernel
theorem d_m10_refusalOfPiece_103 : decode b_m10_refusalOfPiece 103 = .ok (.aload_n 0, 1) := by decide +kernel
theorem d_m10_refusalOfPiece_104 : decode b_m10_refusalOfPiece 104 = .ok (.getfield 65, 3) := by decide +kernel
theorem d_m10_refusalOfPiece_107 : decode b_m10_refusalOfPiece 107 = .ok (.getfield 145, 3) := by decide +kernel
theorem d_m10_refusalOfPiece_110 : decode b_m10_refusalOfPiece 110 = .ok (.if_icmp .le 6, 3) := by decide +kernel
theorem d_m10_refusalOfPiece_113 : decode b_m10_refusalOfPiece 113 = .ok (.bipush (-7), 2) := by decide +kernel
theorem d_m10_refusalOfPiece_115 : decode b_m10_refusalOfPiece 115 = .ok (.ireturn, 1) := by decide +kernel
theorem d_m10_refusalOfPiece_116 : decode b_m10_refusalOfPiece 116 = .ok (.iload 5, 2) := by decide +kernel
theorem d_m10_refusalOfPiece_118 : decode b_m10_refusalOfPiece 118 = .ok (.invokestatic 146, 3) := by decide +kernel
theorem d_m10_refusalOfPiece_121 : decode b_m10_refusalOfPiece 121 = .ok (.ifCond .eq 13, 3) := by decide +kernel
theorem d_m10_refusalOfPiece_124 : decode b_m10_refusalOfPiece 124 = .ok (.iload_n 3, 1) := by decide +kernel
theorem d_m10_refusalOfPiece_125 : decode b_m10_refusalOfPiece 125 = .ok (.ifCond .lt 27, 3) := by decide +kernel
theorem d_m10_refusalOfPiece_128 : decode b_m10_refusalOfPiece 128 = .ok (.iload_n 3, 1) := by decide +kernel
theorem d_m10_refusalOfPiece_129 : decode b_m10_refusalOfPiece 129 = .ok (.bipush 8, 2) := by decide +kernel
theorem d_m10_refusalOfPiece_131 : decode b_m10_refusalOfPiece 131 = .ok (.if_icmp .ge 21, 3) := by decide +kernel
theorem d_m10_refusalOfPiece_134 : decode b_m10_refusalOfPiece 134 = .ok (.iload 5, 2) := by decide +kernel
theorem d_m10_refusalOfPiece_136 : decode b_m10_refusalOfPiece 136 = .ok (.iconst 5, 1) := by decide +kernel
theorem d_m10_refusalOfPiece_137 : decode b_m10_refusalOfPiece 137 = .ok (.if_icmp .ne 18, 3) := by decide +kernel
theorem d_m10_refusalOfPiece_140 : decode b_m10_refusalOfPiece 140 = .ok (.iload 4, 2) := by decide +kernel
theorem d_m10_refusalOfPiece_142 : decode b_m10_refusalOfPiece 142 = .ok (.ifCond .lt 10, 3) := by decide +kernel
theorem d_m10_refusalOfPiece_145 : decode b_m10_refusalOfPiece 145 = .ok (.iload 4, 2) := by decide +kernel
theorem d_m10_refusalOfPiece_147 : decode b_m10_refusalOfPiece 147 = .ok (.ldc 149, 2) := by decide +kernel
theorem d_m10_refusalOfPiece_149 : decode b_m10_refusalOfPiece 149 = .ok (.if_icmp .le 6, 3) := by decide +kernel
theorem d_m10_refusalOfPiece_152 : decode b_m10_refusalOfPiece 152 = .ok (.bipush (-7), 2) := by decide +kernel
theorem d_m10_refusalOfPiece_154 : decode b_m10_refusalOfPiece 154 = .ok (.ireturn, 1) := by decide +kernel
theorem d_m10_refusalOfPiece_155 : decode b_m10_refusalOfPiece 155 = .ok (.iload 5, 2) := by decide +kernel
theorem d_m10_refusalOfPiece_157 : decode b_m10_refusalOfPiece 157 = .ok (.invokestatic 142, 3) := by decide +kernel
theorem d_m10_refusalOfPiece_160 : decode b_m10_refusalOfPiece 160 = .ok (.ifCond .eq 25, 3) := by decide +kernel
theorem d_m10_refusalOfPiece_163 : decode b_m10_refusalOfPiece 163 = .ok (.iload 5, 2) := by decide +kernel
theorem d_m10_refusalOfPiece_165 : decode b_m10_refusalOfPiece 165 = .ok (.iload_n 1, 1) := by decide +kernel
theorem d_m10_refusalOfPiece_166 : decode b_m10_refusalOfPiece 166 = .ok (.invokestatic 98, 3) := by decide +kernel
theorem d_m10_refusalOfPiece_169 : decode b_m10_refusalOfPiece 169 = .ok (.iload 6, 2) := by decide +kernel
theorem d_m10_refusalOfPiece_171 : decode b_m10_refusalOfPiece 171 = .ok (.aload_n 0, 1) := by decide +kernel
theorem d_m10_refusalOfPiece_172 : decode b_m10_refusalOfPiece 172 = .ok (.getfield 17, 3) := by decide +kernel
theorem d_m10_refusalOfPiece_175 : decode b_m10_refusalOfPiece 175 = .ok (.iload_n 3, 1) := by decide +kernel
theorem d_m10_refusalOfPiece_176 : decode b_m10_refusalOfPiece 176 = .ok (.aaload, 1) := by decide +kernel
theorem d_m10_refusalOfPiece_177 : decode b_m10_refusalOfPiece 177 = .ok (.iload 4, 2) := by decide +kernel
theorem d_m10_refusalOfPiece_179 : decode b_m10_refusalOfPiece 179 = .ok (.invokestatic 150, 3) := by decide +kernel
theorem d_m10_refusalOfPiece_182 : decode b_m10_refusalOfPiece 182 = .ok (.goto 4, 3) := by decide +kernel
theorem d_m10_refusalOfPiece_185 : decode b_m10_refusalOfPiece 185 = .ok (.iconst 0, 1) := by decide +kernel
theorem d_m10_refusalOfPiece_186 : decode b_m10_refusalOfPiece 186 = .ok (.istore 7, 2) := by decide +kernel
theorem d_m10_refusalOfPiece_188 : decode b_m10_refusalOfPiece 188 = .ok (.iload 7, 2) := by decide +kernel
theorem d_m10_refusalOfPiece_190 : decode b_m10_refusalOfPiece 190 = .ok (.ifCond .eq 6, 3) := by decide +kernel
theorem d_m10_refusalOfPiece_193 : decode b_m10_refusalOfPiece 193 = .ok (.iload 7, 2) := by decide +kernel
theorem d_m10_refusalOfPiece_195 : decode b_m10_refusalOfPiece 195 = .ok (.ireturn, 1) := by decide +kernel
theorem d_m10_refusalOfPiece_196 : decode b_m10_refusalOfPiece 196 = .ok (.aload_n 0, 1) := by decide +kernel
theorem d_m10_refusalOfPiece_197 : decode b_m10_refusalOfPiece 197 = .ok (.getfield 92, 3) := by decide +kernel
theorem d_m10_refusalOfPiece_200 : decode b_m10_refusalOfPiece 200 = .ok (.bipush 40, 2) := by decide +kernel
theorem d_m10_refusalOfPiece_202 : decode b_m10_refusalOfPiece 202 = .ok (.if_icmp .ge 7, 3) := by decide +kernel
theorem d_m10_refusalOfPiece_205 : decode b_m10_refusalOfPiece 205 = .ok (.iconst 0, 1) := by decide +kernel
theorem d_m10_refusalOfPiece_206 : decode b_m10_refusalOfPiece 206 = .ok (.goto 5, 3) := by decide +kernel
theorem d_m10_refusalOfPiece_209 : decode b_m10_refusalOfPiece 209 = .ok (.bipush (-8), 2) := by decide +kernel
theorem d_m10_refusalOfPiece_211 : decode b_m10_refusalOfPiece 211 = .ok (.ireturn, 1) := by decide +kernel
def s_m10_refusalOfPiece_41   (M : Mm) : Option (Int32 × Mm) := some ((-3 : Int32), M)
def s_m10_refusalOfPiece_113   (M : Mm) : Option (Int32 × Mm) := some ((-7 : Int32), M)
def s_m10_refusalOfPiece_211  (t0 : Int32) (M : Mm) : Option (Int32 × Mm) := some (t0, M)
def s_m10_refusalOfPiece_186  (r0 : Nat) (t0 : Int32) (M : Mm) : Option (Int32 × Mm) := (if t0 = 0 then gI M r0 20 11 (fun v1 => (if (40 : Int32) ≤ v1 then s_m10_refusalOfPiece_211 (-8 : Int32) M else s_m10_refusalOfPiece_211 (0 : Int32) M)) else some (t0, M))
def s_m10_refusalOfPiece_155  (r0 : Nat) (x1 : Int32) (x3 : Int32) (x4 : Int32) (x5 : Int32) (x6 : Int32) (M : Mm) : Option (Int32 × Mm) := cl true (s_m10_isOfPiece x5 M) (fun v1 M2 => (if v1 = 0 then s_m10_refusalOfPiece_186 r0 (0 : Int32) M2 else cl true (s_m10_storyOfPiece x1 M2) (fun v3 M4 => gR M4 r0 20 1 (fun v5 => aR M4 v5 3 x3 (fun v6 => cl true (s_m10_refusalOfTarget x5 v3 x6 v6 x4 M4) (fun v7 M8 => s_m10_refusalOfPiece_186 r0 v7 M8))))))
def s_m10_refusalOfPiece_152   (M : Mm) : Option (Int32 × Mm) := some ((-7 : Int32), M)
def s_m10_refusalOfPiece_134  (r0 : Nat) (x1 : Int32) (x3 : Int32) (x4 : Int32) (x5 : Int32) (x6 : Int32) (M : Mm) : Option (Int32 × Mm) := (if ¬ x5 = (5 : Int32) then s_m10_refusalOfPiece_155 r0 x1 x3 x4 x5 x6 M else (if x4 < 0 then s_m10_refusalOfPiece_152 M else (if x4 ≤ (100000 : Int32) then s_m10_refusalOfPiece_155 r0 x1 x3 x4 x5 x6 M else s_m10_refusalOfPiece_152 M)))
def s_m10_refusalOfPiece_63  (r0 : Nat) (x1 : Int32) (x2 : Int32) (x3 : Int32) (x4 : Int32) (x5 : Int32) (M : Mm) : Option (Int32 × Mm) := dz (100 : Int32) ((if (5 : Int32) < x5 then s_m10_refusalOfPiece_113 M else (if x2 < 0 then s_m10_refusalOfPiece_113 M else dz (100 : Int32) ((if (9 : Int32) < (x2 / (100 : Int32)) then s_m10_refusalOfPiece_113 M else (if (x2 - x2 / (100 : Int32) * (100 : Int32)) < (1 : Int32) then s_m10_refusalOfPiece_113 M else (if (12 : Int32) < (x2 - x2 / (100 : Int32) * (100 : Int32)) then s_m10_refusalOfPiece_113 M else gR M r0 20 8 (fun v1 => gI M v1 14 1 (fun v2 => (if (x2 - x2 / (100 : Int32) * (100 : Int32)) ≤ v2 then cl true (s_m10_hasPart x5 M) (fun v3 M4 => (if v3 = 0 then s_m10_refusalOfPiece_134 r0 x1 x3 x4 x5 (x2 - x2 / (100 : Int32) * (100 : Int32)) M4 else (if x3 < 0 then s_m10_refusalOfPiece_152 M4 else (if (8 : Int32) ≤ x3 then s_m10_refusalOfPiece_152 M4 else s_m10_refusalOfPiece_134 r0 x1 x3 x4 x5 (x2 - x2 / (100 : Int32) * (100 : Int32)) M4)))) else s_m10_refusalOfPiece_113 M))))))))))
def s_m10_refusalOfPiece (r0 : Nat) (a1 : Int32) (a2 : Int32) (a3 : Int32) (a4 : Int32) (M : Mm) : Option (Int32 × Mm) := gR M r0 20 8 (fun v1 => cl (has M v1 14) (s_m4_isMissing v1 M) (fun v2 M3 => (if v2 = 0 then dz (100 : Int32) ((if a1 < 0 then s_m10_refusalOfPiece_41 M3 else cl true (s_m10_storyOfPiece a1 M3) (fun v4 M5 => (if (8 : Int32) ≤ v4 then s_m10_refusalOfPiece_41 M5 else dz (10 : Int32) ((if (a1 - a1 / (10 : Int32) * (10 : Int32)) < (6 : Int32) then cl true (s_m10_isOfPiece (a1 / (100 : Int32)) M5) (fun v6 M7 => (if v6 = 0 then s_m10_refusalOfPiece_63 r0 a1 a2 a3 a4 (a1 / (100 : Int32)) M7 else cl (has M7 r0 20) (s_m10_isPiece r0 a3 M7) (fun v8 M9 => (if ¬ v8 = 0 then s_m10_refusalOfPiece_63 r0 a1 a2 a3 a4 (a1 / (100 : Int32)) M9 else some ((-3 : Int32), M9))))) else s_m10_refusalOfPiece_41 M5)))))) else some ((-2 : Int32), M3))))
set_option maxRecDepth 100000 in
set_option maxHeartbeats 4000000 in
theorem w_m10_refusalOfPiece_41 {V : Ev} {C : Cx} {n0 : Nat} (hC : Cok V C y_m10_refusalOfPiece.cls b_m10_refusalOfPiece 8 n0 (some .int) y_m10_refusalOfPiece.name) (hR : cR C = rm_m10_refusalOfPiece)  : ∀  (M : Mm), Sm V C 8 n0 n0 (qI V C) 41 [] [] M (s_m10_refusalOfPiece_41 M) := by
  intro M
  unfold s_m10_refusalOfPiece_41
  refine Sm.bipush (v := -3) hC d_m10_refusalOfPiece_41 (by decide) ?_
  exact Sm.iret hC d_m10_refusalOfPiece_43 rfl (Nat.sub_self _)
set_option maxRecDepth 100000 in
set_option maxHeartbeats 4000000 in
theorem w_m10_refusalOfPiece_113 {V : Ev} {C : Cx} {n0 : Nat} (hC : Cok V C y_m10_refusalOfPiece.cls b_m10_refusalOfPiece 8 n0 (some .int) y_m10_refusalOfPiece.name) (hR : cR C = rm_m10_refusalOfPiece)  : ∀  (M : Mm), Sm V C 8 n0 n0 (qI V C) 113 [] [] M (s_m10_refusalOfPiece_113 M) := by
  intro M
  unfold s_m10_refusalOfPiece_113
  refine Sm.bipush (v := -7) hC d_m10_refusalOfPiece_113 (by decide) ?_
  exact Sm.iret hC d_m10_refusalOfPiece_115 rfl (Nat.sub_self _)
set_option maxRecDepth 100000 in
set_option maxHeartbeats 4000000 in
theorem w_m10_refusalOfPiece_211 {V : Ev} {C : Cx} {n0 : Nat} (hC : Cok V C y_m10_refusalOfPiece.cls b_m10_refusalOfPiece 8 n0 (some .int) y_m10_refusalOfPiece.name) (hR : cR C = rm_m10_refusalOfPiece)  : ∀ (t0 : Int32) (M : Mm), Sm V C 8 n0 n0 (qI V C) 211 [] [.int t0] M (s_m10_refusalOfPiece_211 t0 M) := by
  intro t0 M
  unfold s_m10_refusalOfPiece_211
  exact Sm.iret hC d_m10_refusalOfPiece_211 rfl (Nat.sub_self _)
set_option maxRecDepth 100000 in
set_option maxHeartbeats 4000000 in
theorem w_m10_refusalOfPiece_186 {V : Ev} {C : Cx} {n0 : Nat} (hC : Cok V C y_m10_refusalOfPiece.cls b_m10_refusalOfPiece 8 n0 (some .int) y_m10_refusalOfPiece.name) (hR : cR C = rm_m10_refusalOfPiece)  : ∀ (r0 : Nat) (t0 : Int32) (M : Mm), Sm V C 8 n0 n0 (qI V C) 186 [(0, rv V.1 r0)] [.int t0] M (s_m10_refusalOfPiece_186 r0 t0 M) := by
  intro r0 t0 M
  unfold s_m10_refusalOfPiece_186
  refine Sm.istore (lv' := [(7, .int t0), (0, rv V.1 r0)]) hC d_m10_refusalOfPiece_186 (by decide) rfl ?_
  refine Sm.iload hC d_m10_refusalOfPiece_188 0 rfl ?_
  refine Sm.if_eq (tgt := 196) hC d_m10_refusalOfPiece_190 (by decide) ?_ ?_
  · refine Sm.aload_n hC d_m10_refusalOfPiece_196 rfl 1 rfl ?_
    refine Sm.getI hC fl_m10_92 rfl d_m10_refusalOfPiece_197 (fun v1 => ?_)
    refine Sm.bipush (v := 40) hC d_m10_refusalOfPiece_200 (by decide) ?_
    refine Sm.icmp_ge (tgt := 209) hC d_m10_refusalOfPiece_202 (by decide) ?_ ?_
    · refine Sm.bipush (v := -8) hC d_m10_refusalOfPiece_209 (by decide) ?_
      refine Sm.sub [] rfl ?_
      exact w_m10_refusalOfPiece_211 hC hR (-8 : Int32) M
    · refine Sm.iconst (v := 0) hC d_m10_refusalOfPiece_205 (by decide) ?_
      refine Sm.goto (tgt := 211) hC d_m10_refusalOfPiece_206 (by decide) ?_
      refine Sm.sub [] rfl ?_
      exact w_m10_refusalOfPiece_211 hC hR (0 : Int32) M
  · refine Sm.iload hC d_m10_refusalOfPiece_193 0 rfl ?_
    exact Sm.iret hC d_m10_refusalOfPiece_195 rfl (Nat.sub_self _)
set_option maxRecDepth 100000 in
set_option maxHeartbeats 4000000 in
theorem w_m10_refusalOfPiece_155 {V : Ev} {C : Cx} {n0 : Nat} (hC : Cok V C y_m10_refusalOfPiece.cls b_m10_refusalOfPiece 8 n0 (some .int) y_m10_refusalOfPiece.name) (hR : cR C = rm_m10_refusalOfPiece)  : ∀ (r0 : Nat) (x1 : Int32) (x3 : Int32) (x4 : Int32) (x5 : Int32) (x6 : Int32) (M : Mm), Sm V C 8 n0 n0 (qI V C) 155 [(0, rv V.1 r0), (1, .int x1), (3, .int x3), (4, .int x4), (5, .int x5), (6, .int x6)] [] M (s_m10_refusalOfPiece_155 r0 x1 x3 x4 x5 x6 M) := by
  intro r0 x1 x3 x4 x5 x6 M
  unfold s_m10_refusalOfPiece_155
  refine Sm.iload hC d_m10_refusalOfPiece_155 4 rfl ?_
  refine Sm.callSi (As := [.int x5]) (st := []) hC hR cw_m10_isOfPiece (tw_i 433 (by decide +kernel)) (tw_i 434 (by decide +kernel)) (fun r9 M9 h9 => ok_m10_isOfPiece h9) rfl rfl (RW.of ⟨rfl, rfl, by decide, by decide⟩) (by simp) d_m10_refusalOfPiece_157 (fun v1 M2 => ?_)
  refine Sm.if_eq (tgt := 185) hC d_m10_refusalOfPiece_160 (by decide) ?_ ?_
  · refine Sm.iconst (v := 0) hC d_m10_refusalOfPiece_185 (by decide) ?_
    refine Sm.sub [0] rfl ?_
    exact w_m10_refusalOfPiece_186 hC hR r0 (0 : Int32) M2
  · refine Sm.iload hC d_m10_refusalOfPiece_163 4 rfl ?_
    refine Sm.iload_n hC d_m10_refusalOfPiece_165 rfl 1 rfl ?_
    refine Sm.callSi (As := [.int x1]) (st := [.int x5]) hC hR cw_m10_storyOfPiece (tw_i 430 (by decide +kernel)) (tw_i 431 (by decide +kernel)) (fun r9 M9 h9 => ok_m10_storyOfPiece h9) rfl rfl (RW.of ⟨rfl, rfl, by decide, by decide⟩) (by simp) d_m10_refusalOfPiece_166 (fun v3 M4 => ?_)
    refine Sm.iload hC d_m10_refusalOfPiece_169 5 rfl ?_
    refine Sm.aload_n hC d_m10_refusalOfPiece_171 rfl 0 rfl ?_
    refine Sm.getR hC fl_m10_17 rfl d_m10_refusalOfPiece_172 (fun v5 => ?_)
    refine Sm.iload_n hC d_m10_refusalOfPiece_175 rfl 2 rfl ?_
    refine Sm.aald (Cn := n_c3) hC ⟨by decide, by decide⟩ rfl d_m10_refusalOfPiece_176 (fun v6 => ?_)
    refine Sm.iload hC d_m10_refusalOfPiece_177 3 rfl ?_
    refine Sm.callSi (As := [.int x5, .int v3, .int x6, rv V.1 v6, .int x4]) (st := []) hC hR cw_m10_refusalOfTarget (tw_i 444 (by decide +kernel)) (tw_i 445 (by decide +kernel)) (fun r9 M9 h9 => ok_m10_refusalOfTarget h9) rfl rfl (RW.of ⟨rfl, rfl, by decide, by decide⟩) (by simp) d_m10_refusalOfPiece_179 (fun v7 M8 => ?_)
    refine Sm.goto (tgt := 186) hC d_m10_refusalOfPiece_182 (by decide) ?_
    refine Sm.sub [0] rfl ?_
    exact w_m10_refusalOfPiece_186 hC hR r0 v7 M8
set_option maxRecDepth 100000 in
set_option maxHeartbeats 4000000 in
theorem w_m10_refusalOfPiece_152 {V : Ev} {C : Cx} {n0 : Nat} (hC : Cok V C y_m10_refusalOfPiece.cls b_m10_refusalOfPiece 8 n0 (some .int) y_m10_refusalOfPiece.name) (hR : cR C = rm_m10_refusalOfPiece)  : ∀  (M : Mm), Sm V C 8 n0 n0 (qI V C) 152 [] [] M (s_m10_refusalOfPiece_152 M) := by
  intro M
  unfold s_m10_refusalOfPiece_152
  refine Sm.bipush (v := -7) hC d_m10_refusalOfPiece_152 (by decide) ?_
  exact Sm.iret hC d_m10_refusalOfPiece_154 rfl (Nat.sub_self _)
set_option maxRecDepth 100000 in
set_option maxHeartbeats 4000000 in
theorem w_m10_refusalOfPiece_134 {V : Ev} {C : Cx} {n0 : Nat} (hC : Cok V C y_m10_refusalOfPiece.cls b_m10_refusalOfPiece 8 n0 (some .int) y_m10_refusalOfPiece.name) (hR : cR C = rm_m10_refusalOfPiece)  : ∀ (r0 : Nat) (x1 : Int32) (x3 : Int32) (x4 : Int32) (x5 : Int32) (x6 : Int32) (M : Mm), Sm V C 8 n0 n0 (qI V C) 134 [(0, rv V.1 r0), (1, .int x1), (3, .int x3), (4, .int x4), (5, .int x5), (6, .int x6)] [] M (s_m10_refusalOfPiece_134 r0 x1 x3 x4 x5 x6 M) := by
  intro r0 x1 x3 x4 x5 x6 M
  unfold s_m10_refusalOfPiece_134
  refine Sm.iload hC d_m10_refusalOfPiece_134 4 rfl ?_
  refine Sm.iconst (v := 5) hC d_m10_refusalOfPiece_136 (by decide) ?_
  refine Sm.icmp_ne (tgt := 155) hC d_m10_refusalOfPiece_137 (by decide) ?_ ?_
  · exact w_m10_refusalOfPiece_155 hC hR r0 x1 x3 x4 x5 x6 M
  · refine Sm.iload hC d_m10_refusalOfPiece_140 3 rfl ?_
    refine Sm.if_lt (tgt := 152) hC d_m10_refusalOfPiece_142 (by decide) ?_ ?_
    · refine Sm.sub [] rfl ?_
      exact w_m10_refusalOfPiece_152 hC hR M
    · refine Sm.iload hC d_m10_refusalOfPiece_145 3 rfl ?_
      refine Sm.ldc (v := 100000) hC d_m10_refusalOfPiece_147 (tw_i 443 (by decide +kernel)) ?_
      refine Sm.icmp_le (tgt := 155) hC d_m10_refusalOfPiece_149 (by decide) ?_ ?_
      · exact w_m10_refusalOfPiece_155 hC hR r0 x1 x3 x4 x5 x6 M
      · refine Sm.sub [] rfl ?_
        exact w_m10_refusalOfPiece_152 hC hR M
set_option maxRecDepth 100000 in
set_option maxHeartbeats 4000000 in
theorem w_m10_refusalOfPiece_63 {V : Ev} {C : Cx} {n0 : Nat} (hC : Cok V C y_m10_refusalOfPiece.cls b_m10_refusalOfPiece 8 n0 (some .int) y_m10_refusalOfPiece.name) (hR : cR C = rm_m10_refusalOfPiece)  : ∀ (r0 : Nat) (x1 : Int32) (x2 : Int32) (x3 : Int32) (x4 : Int32) (x5 : Int32) (M : Mm), Sm V C 8 n0 n0 (qI V C) 63 [(0, rv V.1 r0), (1, .int x1), (2, .int x2), (3, .int x3), (4, .int x4), (5, .int x5)] [] M (s_m10_refusalOfPiece_63 r0 x1 x2 x3 x4 x5 M) := by
  intro r0 x1 x2 x3 x4 x5 M
  unfold s_m10_refusalOfPiece_63
  refine Sm.iload_n hC d_m10_refusalOfPiece_63 rfl 2 rfl ?_
  refine Sm.bipush (v := 100) hC d_m10_refusalOfPiece_64 (by decide) ?_
  refine Sm.irem hC d_m10_refusalOfPiece_66 ?_
  refine Sm.istore (lv' := [(6, .int (x2 - x2 / (100 : Int32) * (100 : Int32))), (0, rv V.1 r0), (1, .int x1), (2, .int x2), (3, .int x3), (4, .int x4), (5, .int x5)]) hC d_m10_refusalOfPiece_67 (by decide) rfl ?_
  refine Sm.iload hC d_m10_refusalOfPiece_69 6 rfl ?_
  refine Sm.iconst (v := 5) hC d_m10_refusalOfPiece_71 (by decide) ?_
  refine Sm.icmp_gt (tgt := 113) hC d_m10_refusalOfPiece_72 (by decide) ?_ ?_
  · refine Sm.sub [] rfl ?_
    exact w_m10_refusalOfPiece_113 hC hR M
  · refine Sm.iload_n hC d_m10_refusalOfPiece_75 rfl 3 rfl ?_
    refine Sm.if_lt (tgt := 113) hC d_m10_refusalOfPiece_76 (by decide) ?_ ?_
    · refine Sm.sub [] rfl ?_
      exact w_m10_refusalOfPiece_113 hC hR M
    · refine Sm.iload_n hC d_m10_refusalOfPiece_79 rfl 3 rfl ?_
      refine Sm.bipush (v := 100) hC d_m10_refusalOfPiece_80 (by decide) ?_
      refine Sm.idiv hC d_m10_refusalOfPiece_82 ?_
      refine Sm.bipush (v := 9) hC d_m10_refusalOfPiece_83 (by decide) ?_
      refine Sm.icmp_gt (tgt := 113) hC d_m10_refusalOfPiece_85 (by decide) ?_ ?_
      · refine Sm.sub [] rfl ?_
        exact w_m10_refusalOfPiece_113 hC hR M
      · refine Sm.iload hC d_m10_refusalOfPiece_88 0 rfl ?_
        refine Sm.iconst (v := 1) hC d_m10_refusalOfPiece_90 (by decide) ?_
        refine Sm.icmp_lt (tgt := 113) hC d_m10_refusalOfPiece_91 (by decide) ?_ ?_
        · refine Sm.sub [] rfl ?_
          exact w_m10_refusalOfPiece_113 hC hR M
        · refine Sm.iload hC d_m10_refusalOfPiece_94 0 rfl ?_
          refine Sm.bipush (v := 12) hC d_m10_refusalOfPiece_96 (by decide) ?_
          refine Sm.icmp_gt (tgt := 113) hC d_m10_refusalOfPiece_98 (by decide) ?_ ?_
          · refine Sm.sub [] rfl ?_
            exact w_m10_refusalOfPiece_113 hC hR M
          · refine Sm.iload hC d_m10_refusalOfPiece_101 0 rfl ?_
            refine Sm.aload_n hC d_m10_refusalOfPiece_103 rfl 1 rfl ?_
            refine Sm.getR hC fl_m10_65 rfl d_m10_refusalOfPiece_104 (fun v1 => ?_)
            refine Sm.getI hC fl_m10_145 rfl d_m10_refusalOfPiece_107 (fun v2 => ?_)
            refine Sm.icmp_le (tgt := 116) hC d_m10_refusalOfPiece_110 (by decide) ?_ ?_
            · refine Sm.iload hC d_m10_refusalOfPiece_116 6 rfl ?_
              refine Sm.callSi (As := [.int x5]) (st := []) hC hR cw_m10_hasPart (tw_i 440 (by decide +kernel)) (tw_i 441 (by decide +kernel)) (fun r9 M9 h9 => ok_m10_hasPart h9) rfl rfl (RW.of ⟨rfl, rfl, by decide, by decide⟩) (by simp) d_m10_refusalOfPiece_118 (fun v3 M4 => ?_)
              refine Sm.if_eq (tgt := 134) hC d_m10_refusalOfPiece_121 (by decide) ?_ ?_
              · refine Sm.sub [1, 2, 4, 5, 6, 0] rfl ?_
                exact w_m10_refusalOfPiece_134 hC hR r0 x1 x3 x4 x5 (x2 - x2 / (100 : Int32) * (100 : Int32)) M4
              · refine Sm.iload_n hC d_m10_refusalOfPiece_124 rfl 4 rfl ?_
                refine Sm.if_lt (tgt := 152) hC d_m10_refusalOfPiece_125 (by decide) ?_ ?_
                · refine Sm.sub [] rfl ?_
                  exact w_m10_refusalOfPiece_152 hC hR M4
                · refine Sm.iload_n hC d_m10_refusalOfPiece_128 rfl 4 rfl ?_
                  refine Sm.bipush (v := 8) hC d_m10_refusalOfPiece_129 (by decide) ?_
                  refine Sm.icmp_ge (tgt := 152) hC d_m10_refusalOfPiece_131 (by decide) ?_ ?_
                  · refine Sm.sub [] rfl ?_
                    exact w_m10_refusalOfPiece_152 hC hR M4
                  · refine Sm.sub [1, 2, 4, 5, 6, 0] rfl ?_
                    exact w_m10_refusalOfPiece_134 hC hR r0 x1 x3 x4 x5 (x2 - x2 / (100 : Int32) * (100 : Int32)) M4
            · refine Sm.sub [] rfl ?_
              exact w_m10_refusalOfPiece_113 hC hR M
set_option maxRecDepth 100000 in
set_option maxHeartbeats 4000000 in
theorem ok_m10_refusalOfPiece {l : Launch} {V : Ev} {M M' : Mm} {r : Int32} {r0 : Nat} {a1 : Int32} {a2 : Int32} {a3 : Int32} {a4 : Int32} (h : s_m10_refusalOfPiece r0 a1 a2 a3 a4 M = some (r, M')) : Met l y_m10_refusalOfPiece (Cond.code y_m10_refusalOfPiece b_m10_refusalOfPiece 8 (some .int) :: TW) rm_m10_refusalOfPiece (va_Pc [rv V.1 r0, .int a1, .int a2, .int a3, .int a4] (Wd V M)) (QC V (some (.int r)) M' 0) 0 0 (Af V) := by
  refine met_of (fun x : Int32 => some (.int x)) (lv0 := [(0, rv V.1 r0), (1, .int a1), (2, .int a2), (3, .int a3), (4, .int a4)]) (by decide) (by simp [lg_sl, cat_rv, cat_i, cat_l, cat_f]) (by simp [lv_args, cat_rv, cat_i, cat_l, cat_f]) (fun C hl hR hC => ?_) h
  subst hl
  generalize mN M = n0 at hC ⊢
  unfold s_m10_refusalOfPiece
  refine Sm.aload_n hC d_m10_refusalOfPiece_0 rfl 0 rfl ?_
  refine Sm.getR hC fl_m10_65 rfl d_m10_refusalOfPiece_1 (fun v1 => ?_)
  refine Sm.callVi 4 (As := []) (st := []) hC hR cw_m4_isMissing (tw_i 426 (by decide +kernel)) (tw_i 427 (by decide +kernel)) (tw_i 428 (by decide +kernel)) ⟨_, rfl, rfl⟩ (fun r9 M9 h9 => ok_m4_isMissing h9) rfl rfl (RW.of ⟨rfl, rfl, by decide, by decide⟩) (by simp) d_m10_refusalOfPiece_4 (fun v2 M3 => ?_)
  refine Sm.if_eq (tgt := 13) hC d_m10_refusalOfPiece_7 (by decide) ?_ ?_
  · refine Sm.iload_n hC d_m10_refusalOfPiece_13 rfl 1 rfl ?_
    refine Sm.bipush (v := 100) hC d_m10_refusalOfPiece_14 (by decide) ?_
    refine Sm.idiv hC d_m10_refusalOfPiece_16 ?_
    refine Sm.istore (lv' := [(5, .int (a1 / (100 : Int32))), (0, rv V.1 r0), (1, .int a1), (2, .int a2), (3, .int a3), (4, .int a4)]) hC d_m10_refusalOfPiece_17 (by decide) rfl ?_
    refine Sm.iload_n hC d_m10_refusalOfPiece_19 rfl 2 rfl ?_
    refine Sm.if_lt (tgt := 41) hC d_m10_refusalOfPiece_20 (by decide) ?_ ?_
    · refine Sm.sub [] rfl ?_
      exact w_m10_refusalOfPiece_41 hC hR M3
    · refine Sm.iload_n hC d_m10_refusalOfPiece_23 rfl 2 rfl ?_
      refine Sm.callSi (As := [.int a1]) (st := []) hC hR cw_m10_storyOfPiece (tw_i 430 (by decide +kernel)) (tw_i 431 (by decide +kernel)) (fun r9 M9 h9 => ok_m10_storyOfPiece h9) rfl rfl (RW.of ⟨rfl, rfl, by decide, by decide⟩) (by simp) d_m10_refusalOfPiece_24 (fun v4 M5 => ?_)
      refine Sm.bipush (v := 8) hC d_m10_refusalOfPiece_27 (by decide) ?_
      refine Sm.icmp_ge (tgt := 41) hC d_m10_refusalOfPiece_29 (by decide) ?_ ?_
      · refine Sm.sub [] rfl ?_
        exact w_m10_refusalOfPiece_41 hC hR M5
      · refine Sm.iload_n hC d_m10_refusalOfPiece_32 rfl 2 rfl ?_
        refine Sm.bipush (v := 10) hC d_m10_refusalOfPiece_33 (by decide) ?_
        refine Sm.irem hC d_m10_refusalOfPiece_35 ?_
        refine Sm.bipush (v := 6) hC d_m10_refusalOfPiece_36 (by decide) ?_
        refine Sm.icmp_lt (tgt := 44) hC d_m10_refusalOfPiece_38 (by decide) ?_ ?_
        · refine Sm.iload hC d_m10_refusalOfPiece_44 0 rfl ?_
          refine Sm.callSi (As := [.int (a1 / (100 : Int32))]) (st := []) hC hR cw_m10_isOfPiece (tw_i 433 (by decide +kernel)) (tw_i 434 (by decide +kernel)) (fun r9 M9 h9 => ok_m10_isOfPiece h9) rfl rfl (RW.of ⟨rfl, rfl, by decide, by decide⟩) (by simp) d_m10_refusalOfPiece_46 (fun v6 M7 => ?_)
          refine Sm.if_eq (tgt := 63) hC d_m10_refusalOfPiece_49 (by decide) ?_ ?_
          · refine Sm.sub [1, 2, 3, 4, 5, 0] rfl ?_
            exact w_m10_refusalOfPiece_63 hC hR r0 a1 a2 a3 a4 (a1 / (100 : Int32)) M7
          · refine Sm.aload_n hC d_m10_refusalOfPiece_52 rfl 1 rfl ?_
            refine Sm.iload_n hC d_m10_refusalOfPiece_53 rfl 4 rfl ?_
            refine Sm.callVi 10 (As := [.int a3]) (st := []) hC hR cw_m10_isPiece (tw_i 436 (by decide +kernel)) (tw_i 438 (by decide +kernel)) (tw_i 2 (by decide +kernel)) ⟨_, rfl, rfl⟩ (fun r9 M9 h9 => ok_m10_isPiece h9) rfl rfl (RW.of ⟨rfl, rfl, by decide, by decide⟩) (by simp) d_m10_refusalOfPiece_54 (fun v8 M9 => ?_)
            refine Sm.if_ne (tgt := 63) hC d_m10_refusalOfPiece_57 (by decide) ?_ ?_
            · refine Sm.sub [1, 2, 3, 4, 5, 0] rfl ?_
              exact w_m10_refusalOfPiece_63 hC hR r0 a1 a2 a3 a4 (a1 / (100 : Int32)) M9
            · refine Sm.bipush (v := -3) hC d_m10_refusalOfPiece_60 (by decide) ?_
              exact Sm.iret hC d_m10_refusalOfPiece_62 rfl (Nat.sub_self _)
        · refine Sm.sub [] rfl ?_
          exact w_m10_refusalOfPiece_41 hC hR M5
  · refine Sm.bipush (v := -2) hC d_m10_refusalOfPiece_10 (by decide) ?_
    exact Sm.iret hC d_m10_refusalOfPiece_12 rfl (Nat.sub_self _)
/-! NewsWire.hasY(I)Z -/
abbrev b_m10_hasY : ByteArray := prog_1_method_12_code
def y_m10_hasY : MethodName := ⟨"NewsWire", "hasY", "(I)Z"⟩
def rm_m10_hasY : Room := { frames := 1, cells := 0, slots := 0, locals := 60 }
theorem cw_m10_hasY : CW y_m10_hasY b_m10_hasY 1 (some .boolean) 1 := ⟨tw_i 55 (by decide +kernel), tw_i 453 (by decide +kernel), by decide, by decide, by decide +kernel⟩
theorem d_m10_hasY_0 : decode b_m10_hasY 0 = .ok (.iload_n 0, 1) := by decide +kernel
theorem d_m10_hasY_1 : decode b_m10_hasY 1 = .ok (.iconst 2, 1) := by decide +kernel
theorem d_m10_hasY_2 : decode b_m10_hasY 2 = .ok (.if_icmp .eq 13, 3) := by decide +kernel
theorem d_m10_hasY_5 : decode b_m10_hasY 5 = .ok (.iload_n 0, 1) := by decide +kernel
theorem d_m10_hasY_6 : decode b_m10_hasY 6 = .ok (.iconst 3, 1) := by decide +kernel
theorem d_m10_hasY_7 : decode b_m10_hasY 7 = .ok (.if_icmp .eq 8, 3) := by decide +kernel
theorem d_m10_hasY_10 : decode b_m10_hasY 10 = .ok (.iload_n 0, 1) := by decide +kernel
theorem d_m10_hasY_11 : decode b_m10_hasY 11 = .ok (.iconst 5, 1) := by decide +kernel
theorem d_m10_hasY_12 : decode b_m10_hasY 12 = .ok (.if_icmp .ne 7, 3) := by decide +kernel
theorem d_m10_hasY_15 : decode b_m10_hasY 15 = .ok (.iconst 1, 1) := by decide +kernel
theorem d_m10_hasY_16 : decode b_m10_hasY 16 = .ok (.goto 4, 3) := by decide +kernel
theorem d_m10_hasY_19 : decode b_m10_hasY 19 = .ok (.iconst 0, 1) := by decide +kernel
theorem d_m10_hasY_20 : decode b_m10_hasY 20 = .ok (.ireturn, 1) := by decide +kernel
def s_m10_hasY_20  (t0 : Int32) (M : Mm) : Option (Int32 × Mm) := rz t0 (some (t0, M))
def s_m10_hasY_15   (M : Mm) : Option (Int32 × Mm) := s_m10_hasY_20 (1 : Int32) M
def s_m10_hasY (a0 : Int32) (M : Mm) : Option (Int32 × Mm) := (if a0 = (2 : Int32) then s_m10_hasY_15 M else (if a0 = (3 : Int32) then s_m10_hasY_15 M else (if ¬ a0 = (5 : Int32) then s_m10_hasY_20 (0 : Int32) M else s_m10_hasY_15 M)))
set_option maxRecDepth 100000 in
set_option maxHeartbeats 4000000 in
theorem w_m10_hasY_20 {V : Ev} {C : Cx} {n0 : Nat} (hC : Cok V C y_m10_hasY.cls b_m10_hasY 1 n0 (some .boolean) y_m10_hasY.name) (hR : cR C = rm_m10_hasY)  : ∀ (t0 : Int32) (M : Mm), Sm V C 1 n0 n0 (qI V C) 20 [] [.int t0] M (s_m10_hasY_20 t0 M) := by
  intro t0 M
  unfold s_m10_hasY_20
  exact Sm.zret hC d_m10_hasY_20 rfl (Nat.sub_self _)
set_option maxRecDepth 100000 in
set_option maxHeartbeats 4000000 in
theorem w_m10_hasY_15 {V : Ev} {C : Cx} {n0 : Nat} (hC : Cok V C y_m10_hasY.cls b_m10_hasY 1 n0 (some .boolean) y_m10_hasY.name) (hR : cR C = rm_m10_hasY)  : ∀  (M : Mm), Sm V C 1 n0 n0 (qI V C) 15 [] [] M (s_m10_hasY_15 M) := by
  intro M
  unfold s_m10_hasY_15
  refine Sm.iconst (v := 1) hC d_m10_hasY_15 (by decide) ?_
  refine Sm.goto (tgt := 20) hC d_m10_hasY_16 (by decide) ?_
  exact w_m10_hasY_20 hC hR (1 : Int32) M
set_option maxRecDepth 100000 in
set_option maxHeartbeats 4000000 in
theorem ok_m10_hasY {l : Launch} {V : Ev} {M M' : Mm} {r : Int32} {a0 : Int32} (h : s_m10_hasY a0 M = some (r, M')) : Met l y_m10_hasY (Cond.code y_m10_hasY b_m10_hasY 1 (some .boolean) :: TW) rm_m10_hasY (va_Pc [.int a0] (Wd V M)) (QC V (some (.int r)) M' 0) 0 0 (Af V) := by
  refine met_of (fun x : Int32 => some (.int x)) (lv0 := [(0, .int a0)]) (by decide) (by simp [lg_sl, cat_rv, cat_i, cat_l, cat_f]) (by simp [lv_args, cat_rv, cat_i, cat_l, cat_f]) (fun C hl hR hC => ?_) h
  subst hl
  generalize mN M = n0 at hC ⊢
  unfold s_m10_hasY
  refine Sm.iload_n hC d_m10_hasY_0 rfl 0 rfl ?_
  refine Sm.iconst (v := 2) hC d_m10_hasY_1 (by decide) ?_
  refine Sm.icmp_eq (tgt := 15) hC d_m10_hasY_2 (by decide) ?_ ?_
  · refine Sm.sub [] rfl ?_
    exact w_m10_hasY_15 hC hR M
  · refine Sm.iload_n hC d_m10_hasY_5 rfl 0 rfl ?_
    refine Sm.iconst (v := 3) hC d_m10_hasY_6 (by decide) ?_
    refine Sm.icmp_eq (tgt := 15) hC d_m10_hasY_7 (by decide) ?_ ?_
    · refine Sm.sub [] rfl ?_
      exact w_m10_hasY_15 hC hR M
    · refine Sm.iload_n hC d_m10_hasY_10 rfl 0 rfl ?_
      refine Sm.iconst (v := 5) hC d_m10_hasY_11 (by decide) ?_
      refine Sm.icmp_ne (tgt := 19) hC d_m10_hasY_12 (by decide) ?_ ?_
      · refine Sm.iconst (v := 0) hC d_m10_hasY_19 (by decide) ?_
        refine Sm.sub [] rfl ?_
        exact w_m10_hasY_20 hC hR (0 : Int32) M
      · refine Sm.sub [] rfl ?_
        exact w_m10_hasY_15 hC hR M
/-! NewsWire.piece(IIII)I -/
theorem fl_m10_104 : FL "NewsWire" 104 3 3 0 false .int := ⟨_, _, _, _, rfl, in_c3, ty_c3, nm_c3, by decide, rfl, tw_i 306 (by decide +kernel), rfl, rfl, rfl, rfl⟩
theorem fl_m10_107 : FL "NewsWire" 107 3 4 0 false .int := ⟨_, _, _, _, rfl, in_c3, ty_c3, nm_c3, by decide, rfl, tw_i 309 (by decide +kernel), rfl, rfl, rfl, rfl⟩
theorem fl_m10_110 : FL "NewsWire" 110 3 6 0 false .int := ⟨_, _, _, _, rfl, in_c3, ty_c3, nm_c3, by decide, rfl, tw_i 313 (by decide +kernel), rfl, rfl, rfl, rfl⟩
theorem fl_m10_117 : FL "NewsWire" 117 3 7 0 false .int := ⟨_, _, _, _, rfl, in_c3, ty_c3, nm_c3, by decide, rfl, tw_i 315 (by decide +kernel), rfl, rfl, rfl, rfl⟩
theorem fl_m10_123 : FL "NewsWire" 123 4 0 2 true (.array .int) := ⟨_, _, _, _, rfl, in_c4, ty_c4, nm_c4, by decide, rfl, tw_i 250 (by decide +kernel), rfl, rfl, rfl, rfl⟩
theorem fl_m10_126 : FL "NewsWire" 126 3 0 2 true (.array .int) := ⟨_, _, _, _, rfl, in_c3, ty_c3, nm_c3, by decide, rfl, tw_i 297 (by decide +kernel), rfl, rfl, rfl, rfl⟩
abbrev b_m10_piece : ByteArray := prog_1_method_3_code
def y_m10_piece : MethodName := ⟨"NewsWire", "piece", "(IIII)I"⟩
def rm_m10_piece : Room := { frames := 4, cells := 0, slots := 0, locals := 132 }
theorem cw_m10_piece : CW y_m10_piece b_m10_piece 7 (some .int) 4 := ⟨tw_i 55 (by decide +kernel), tw_i 421 (by decide +kernel), by decide, by decide, by decide +kernel⟩
theorem d_m10_piece_0 : decode b_m10_piece 0 = .ok (.aload_n 0, 1) := by decide +kernel
theorem d_m10_piece_1 : decode b_m10_piece 1 = .ok (.iload_n 1, 1) := by decide +kernel
theorem d_m10_piece_2 : decode b_m10_piece 2 = .ok (.iload_n 2, 1) := by decide +kernel
theorem d_m10_piece_3 : decode b_m10_piece 3 = .ok (.iload_n 3, 1) := by decide +kernel
theorem d_m10_piece_4 : decode b_m10_piece 4 = .ok (.iload 4, 2) := by decide +kernel
theorem d_m10_piece_6 : decode b_m10_piece 6 = .ok (.invokevirtual 88, 3) := by decide +kernel
theorem d_m10_piece_9 : decode b_m10_piece 9 = .ok (.istore 5, 2) := by decide +kernel
theorem d_m10_piece_11 : decode b_m10_piece 11 = .ok (.iload 5, 2) := by decide +kernel
theorem d_m10_piece_13 : decode b_m10_piece 13 = .ok (.ifCond .eq 10, 3) := by decide +kernel
theorem d_m10_piece_16 : decode b_m10_piece 16 = .ok (.aload_n 0, 1) := by decide +kernel
theorem d_m10_piece_17 : decode b_m10_piece 17 = .ok (.iload 5, 2) := by decide +kernel
theorem d_m10_piece_19 : decode b_m10_piece 19 = .ok (.invokevirtual 76, 3) := by decide +kernel
theorem d_m10_piece_22 : decode b_m10_piece 22 = .ok (.ireturn, 1) := by decide +kernel
theorem d_m10_piece_23 : decode b_m10_piece 23 = .ok (.aload_n 0, 1) := by decide +kernel
theorem d_m10_piece_24 : decode b_m10_piece 24 = .ok (.getfield 17, 3) := by decide +kernel
theorem d_m10_piece_27 : decode b_m10_piece 27 = .ok (.aload_n 0, 1) := by decide +kernel
theorem d_m10_piece_28 : decode b_m10_piece 28 = .ok (.getfield 92, 3) := by decide +kernel
theorem d_m10_piece_31 : decode b_m10_piece 31 = .ok (.aaload, 1) := by decide +kernel
theorem d_m10_piece_32 : decode b_m10_piece 32 = .ok (.astore 6, 2) := by decide +kernel
theorem d_m10_piece_34 : decode b_m10_piece 34 = .ok (.aload 6, 2) := by decide +kernel
theorem d_m10_piece_36 : decode b_m10_piece 36 = .ok (.iload_n 1, 1) := by decide +kernel
theorem d_m10_piece_37 : decode b_m10_piece 37 = .ok (.bipush 100, 2) := by decide +kernel
theorem d_m10_piece_39 : decode b_m10_piece 39 = .ok (.idiv, 1) := by decide +kernel
theorem d_m10_piece_40 : decode b_m10_piece 40 = .ok (.putfield 95, 3) := by decide +kernel
theorem d_m10_piece_43 : decode b_m10_piece 43 = .ok (.aload 6, 2) := by decide +kernel
theorem d_m10_piece_45 : decode b_m10_piece 45 = .ok (.iload_n 1, 1) := by decide +kernel
theorem d_m10_piece_46 : decode b_m10_piece 46 = .ok (.invokestatic 98, 3) := by decide +kernel
theorem d_m10_piece_49 : decode b_m10_piece 49 = .ok (.putfield 101, 3) := by decide +kernel
theorem d_m10_piece_52 : decode b_m10_piece 52 = .ok (.aload 6, 2) := by decide +kernel
theorem d_m10_piece_54 : decode b_m10_piece 54 = .ok (.iload_n 1, 1) := by decide +kernel
theorem d_m10_piece_55 : decode b_m10_piece 55 = .ok (.bipush 10, 2) := by decide +kernel
theorem d_m10_piece_57 : decode b_m10_piece 57 = .ok (.irem, 1) := by decide +kernel
theorem d_m10_piece_58 : decode b_m10_piece 58 = .ok (.putfield 104, 3) := by decide +kernel
theorem d_m10_piece_61 : decode b_m10_piece 61 = .ok (.aload 6, 2) := by decide +kernel
theorem d_m10_piece_63 : decode b_m10_piece 63 = .ok (.iload_n 2, 1) := by decide +kernel
theorem d_m10_piece_64 : decode b_m10_piece 64 = .ok (.bipush 100, 2) := by decide +kernel
theorem d_m10_piece_66 : decode b_m10_piece 66 = .ok (.idiv, 1) := by decide +kernel
theorem d_m10_piece_67 : decode b_m10_piece 67 = .ok (.putfield 107, 3) := by decide +kernel
theorem d_m10_piece_70 : decode b_m10_piece 70 = .ok (.aload 6, 2) := by decide +kernel
theorem d_m10_piece_72 : decode b_m10_piece 72 = .ok (.aload 6, 2) := by decide +kernel
theorem d_m10_piece_74 : decode b_m10_piece 74 = .ok (.getfield 95, 3) := by decide +kernel
theorem d_m10_piece_77 : decode b_m10_piece 77 = .ok (.iconst 1, 1) := by decide +kernel
theorem d_m10_piece_78 : decode b_m10_piece 78 = .ok (.if_icmp .ne 7, 3) := by decide +kernel
theorem d_m10_piece_81 : decode b_m10_piece 81 = .ok (.iconst (-1), 1) := by decide +kernel
theorem d_m10_piece_82 : decode b_m10_piece 82 = .ok (.goto 4, 3) := by decide +kernel
theorem d_m10_piece_85 : decode b_m10_piece 85 = .ok (.iload_n 3, 1) := by decide +kernel
theorem d_m10_piece_86 : decode b_m10_piece 86 = .ok (.putfield 110, 3) := by decide +kernel
theorem d_m10_piece_89 : decode b_m10_piece 89 = .ok (.aload 6, 2) := by decide +kernel
theorem d_m10_piece_91 : decode b_m10_piece 91 = .ok (.aload 6, 2) := by decide +kernel
theorem d_m10_piece_93 : decode b_m10_piece 93 = .ok (.getfield 95, 3) := by decide +kernel
theorem d_m10_piece_96 : decode b_m10_piece 96 = .ok (.invokestatic 113, 3) := by decide +kernel
theorem d_m10_piece_99 : decode b_m10_piece 99 = .ok (.ifCond .eq 8, 3) := by decide +kernel
theorem d_m10_piece_102 : decode b_m10_piece 102 = .ok (.iload 4, 2) := by decide +kernel
theorem d_m10_piece_104 : decode b_m10_piece 104 = .ok (.goto 4, 3) := by decide +kernel
theorem d_m10_piece_107 : decode b_m10_piece 107 = .ok (.iconst (-1), 1) := by decide +kernel
theorem d_m10_piece_108 : decode b_m10_piece 108 = .ok (.putfield 117, 3) := by decide +kernel
theorem d_m10_piece_111 : decode b_m10_piece 111 = .ok (.aload 6, 2) := by decide +kernel
theorem d_m10_piece_113 : decode b_m10_piece 113 = .ok (.iload_n 2, 1) := by decide +kernel
theorem d_m10_piece_114 : decode b_m10_piece 114 = .ok (.bipush 100, 2) := by decide +kernel
theorem d_m10_piece_116 : decode b_m10_piece 116 = .ok (.irem, 1) := by decide +kernel
theorem d_m10_piece_117 : decode b_m10_piece 117 = .ok (.putfield 120, 3) := by decide +kernel
theorem d_m10_piece_120 : decode b_m10_piece 120 = .ok (.aload_n 0, 1) := by decide +kernel
theorem d_m10_piece_121 : decode b_m10_piece 121 = .ok (.getfield 65, 3) := by decide +kernel
theorem d_m10_piece_124 : decode b_m10_piece 124 = .ok (.getfield 123, 3) := by decide +kernel
theorem d_m10_piece_127 : decode b_m10_piece 127 = .ok (.iconst 0, 1) := by decide +kernel
theorem d_m10_piece_128 : decode b_m10_piece 128 = .ok (.aload 6, 2) := by decide +kernel
theorem d_m10_piece_130 : decode b_m10_piece 130 = .ok (.getfield 126, 3) := by decide +kernel
theorem d_m10_piece_133 : decode b_m10_piece 133 = .ok (.iconst 0, 1) := by decide +kernel
theorem d_m10_piece_134 : decode b_m10_piece 134 = .ok (.aload 6, 2) := by decide +kernel
theorem d_m10_piece_136 : decode b_m10_piece 136 = .ok (.getfield 120, 3) := by decide +kernel
theorem d_m10_piece_139 : decode b_m10_piece 139 = .ok (.invokestatic 129, 3) := by decide +kernel
theorem d_m10_piece_142 : decode b_m10_piece 142 = .ok (.aload_n 0, 1) := by decide +kernel
theorem d_m10_piece_143 : decode b_m10_piece 143 = .ok (.dup, 1) := by decide +kernel
theorem d_m10_piece_144 : decode b_m10_piece 144 = .ok (.getfield 92, 3) := by decide +kernel
theorem d_m10_piece_147 : decode b_m10_piece 147 = .ok (.iconst 1, 1) := by decide +kernel
theorem d_m10_piece_148 : decode b_m10_piece 148 = .ok (.iadd, 1) := by decide +kernel
theorem d_m10_piece_149 : decode b_m10_piece 149 = .ok (.putfield 92, 3) := by decide +kernel
theorem d_m10_piece_152 : decode b_m10_piece 152 = .ok (.aload_n 0, 1) := by decide +kernel
theorem d_m10_piece_153 : decode b_m10_piece 153 = .ok (.getfield 92, 3) := by decide +kernel
theorem d_m10_piece_156 : decode b_m10_piece 156 = .ok (.iconst 1, 1) := by decide +kernel
theorem d_m10_piece_157 : decode b_m10_piece 157 = .ok (.isub, 1) := by decide +kernel
theorem d_m10_piece_158 : decode b_m10_piece 158 = .ok (.ireturn, 1) := by decide +kernel
def s_m10_piece_108  (r0 : Nat) (x2 : Int32) (r6 : Nat) (t0 : Nat) (t1 : Int32) (M : Mm) : Option (Int32 × Mm) := pI M t0 13 7 t1 (fun M1 => dz (100 : Int32) (pI M1 r6 13 5 (x2 - x2 / (100 : Int32) * (100 : Int32)) (fun M2 => gR M2 r0 20 8 (fun v3 => gR M2 v3 14 0 (fun v4 => gR M2 r6 13 0 (fun v5 => gI M2 r6 13 5 (fun v6 => cp M2 v4 (0 : Int32) v5 (0 : Int32) v6 (fun M7 => gI M7 r0 20 11 (fun v8 => pI M7 r0 20 11 (v8 + (1 : Int32)) (fun M9 => gI M9 r0 20 11 (fun v10 => some (v10 - (1 : Int32), M9))))))))))))
def s_m10_piece_86  (r0 : Nat) (x2 : Int32) (x4 : Int32) (r6 : Nat) (t0 : Nat) (t1 : Int32) (M : Mm) : Option (Int32 × Mm) := pI M t0 13 6 t1 (fun M1 => gI M1 r6 13 1 (fun v2 => cl true (s_m10_hasY v2 M1) (fun v3 M4 => (if v3 = 0 then s_m10_piece_108 r0 x2 r6 r6 (-1 : Int32) M4 else s_m10_piece_108 r0 x2 r6 r6 x4 M4))))
def s_m10_piece (r0 : Nat) (a1 : Int32) (a2 : Int32) (a3 : Int32) (a4 : Int32) (M : Mm) : Option (Int32 × Mm) := cl (has M r0 20) (s_m10_refusalOfPiece r0 a1 a2 a3 a4 M) (fun v1 M2 => (if v1 = 0 then gR M2 r0 20 1 (fun v3 => gI M2 r0 20 11 (fun v4 => aR M2 v3 3 v4 (fun v5 => dz (100 : Int32) (pI M2 v5 13 1 (a1 / (100 : Int32)) (fun M6 => cl true (s_m10_storyOfPiece a1 M6) (fun v7 M8 => pI M8 v5 13 2 v7 (fun M9 => dz (10 : Int32) (pI M9 v5 13 3 (a1 - a1 / (10 : Int32) * (10 : Int32)) (fun M10 => dz (100 : Int32) (pI M10 v5 13 4 (a2 / (100 : Int32)) (fun M11 => gI M11 v5 13 1 (fun v12 => (if ¬ v12 = (1 : Int32) then s_m10_piece_86 r0 a2 a4 v5 v5 a3 M11 else s_m10_piece_86 r0 a2 a4 v5 v5 (-1 : Int32) M11))))))))))))) else cl (has M2 r0 20) (s_m10_refuse r0 v1 M2) (fun v13 M14 => some (v13, M14))))
set_option maxRecDepth 100000 in
set_option maxHeartbeats 4000000 in
theorem w_m10_piece_108 {V : Ev} {C : Cx} {n0 : Nat} (hC : Cok V C y_m10_piece.cls b_m10_piece 7 n0 (some .int) y_m10_piece.name) (hR : cR C = rm_m10_piece)  : ∀ (r0 : Nat) (x2 : Int32) (r6 : Nat) (t0 : Nat) (t1 : Int32) (M : Mm), Sm V C 7 n0 n0 (qI V C) 108 [(0, rv V.1 r0), (2, .int x2), (6, rv V.1 r6)] [.int t1, rv V.1 t0] M (s_m10_piece_108 r0 x2 r6 t0 t1 M) := by
  intro r0 x2 r6 t0 t1 M
  unfold s_m10_piece_108
  refine Sm.putI hC fl_m10_117 rfl d_m10_piece_108 (fun M1 => ?_)
  refine Sm.aload hC d_m10_piece_111 2 rfl ?_
  refine Sm.iload_n hC d_m10_piece_113 rfl 1 rfl ?_
  refine Sm.bipush (v := 100) hC d_m10_piece_114 (by decide) ?_
  refine Sm.irem hC d_m10_piece_116 ?_
  refine Sm.putI hC fl_m10_120 rfl d_m10_piece_117 (fun M2 => ?_)
  refine Sm.aload_n hC d_m10_piece_120 rfl 0 rfl ?_
  refine Sm.getR hC fl_m10_65 rfl d_m10_piece_121 (fun v3 => ?_)
  refine Sm.getR hC fl_m10_123 rfl d_m10_piece_124 (fun v4 => ?_)
  refine Sm.iconst (v := 0) hC d_m10_piece_127 (by decide) ?_
  refine Sm.aload hC d_m10_piece_128 2 rfl ?_
  refine Sm.getR hC fl_m10_126 rfl d_m10_piece_130 (fun v5 => ?_)
  refine Sm.iconst (v := 0) hC d_m10_piece_133 (by decide) ?_
  refine Sm.aload hC d_m10_piece_134 2 rfl ?_
  refine Sm.getI hC fl_m10_120 rfl d_m10_piece_136 (fun v6 => ?_)
  refine Sm.copy hC hR (tw_i 454 (by decide +kernel)) (tw_i 456 (by decide +kernel)) (tw_i 455 (by decide +kernel)) (tw_i 67 (by decide +kernel)) (by decide) (by decide) (by decide) d_m10_piece_139 (fun M7 => ?_)
  refine Sm.aload_n hC d_m10_piece_142 rfl 0 rfl ?_
  refine Sm.dup hC d_m10_piece_143 (cat_rv _ _) ?_
  refine Sm.getI hC fl_m10_92 rfl d_m10_piece_144 (fun v8 => ?_)
  refine Sm.iconst (v := 1) hC d_m10_piece_147 (by decide) ?_
  refine Sm.iadd hC d_m10_piece_148 ?_
  refine Sm.putI hC fl_m10_92 rfl d_m10_piece_149 (fun M9 => ?_)
  refine Sm.aload_n hC d_m10_piece_152 rfl 0 rfl ?_
  refine Sm.getI hC fl_m10_92 rfl d_m10_piece_153 (fun v10 => ?_)
  refine Sm.iconst (v := 1) hC d_m10_piece_156 (by decide) ?_
  refine Sm.isub hC d_m10_piece_157 ?_
  exact Sm.iret hC d_m10_piece_158 rfl (Nat.sub_self _)
set_option maxRecDepth 100000 in
set_option maxHeartbeats 4000000 in
theorem w_m10_piece_86 {V : Ev} {C : Cx} {n0 : Nat} (hC : Cok V C y_m10_piece.cls b_m10_piece 7 n0 (some .int) y_m10_piece.name) (hR : cR C = rm_m10_piece)  : ∀ (r0 : Nat) (x2 : Int32) (x4 : Int32) (r6 : Nat) (t0 : Nat) (t1 : Int32) (M : Mm), Sm V C 7 n0 n0 (qI V C) 86 [(0, rv V.1 r0), (2, .int x2), (4, .int x4), (6, rv V.1 r6)] [.int t1, rv V.1 t0] M (s_m10_piece_86 r0 x2 x4 r6 t0 t1 M) := by
  intro r0 x2 x4 r6 t0 t1 M
  unfold s_m10_piece_86
  refine Sm.putI hC fl_m10_110 rfl d_m10_piece_86 (fun M1 => ?_)
  refine Sm.aload hC d_m10_piece_89 3 rfl ?_
  refine Sm.aload hC d_m10_piece_91 3 rfl ?_
  refine Sm.getI hC fl_m10_95 rfl d_m10_piece_93 (fun v2 => ?_)
  refine Sm.callSi (As := [.int v2]) (st := [rv V.1 r6]) hC hR cw_m10_hasY (tw_i 451 (by decide +kernel)) (tw_i 452 (by decide +kernel)) (fun r9 M9 h9 => ok_m10_hasY h9) rfl rfl (RW.of ⟨rfl, rfl, by decide, by decide⟩) (by simp) d_m10_piece_96 (fun v3 M4 => ?_)
  refine Sm.if_eq (tgt := 107) hC d_m10_piece_99 (by decide) ?_ ?_
  · refine Sm.iconst (v := -1) hC d_m10_piece_107 (by decide) ?_
    refine Sm.sub [0, 1, 3] rfl ?_
    exact w_m10_piece_108 hC hR r0 x2 r6 r6 (-1 : Int32) M4
  · refine Sm.iload hC d_m10_piece_102 2 rfl ?_
    refine Sm.goto (tgt := 108) hC d_m10_piece_104 (by decide) ?_
    refine Sm.sub [0, 1, 3] rfl ?_
    exact w_m10_piece_108 hC hR r0 x2 r6 r6 x4 M4
set_option maxRecDepth 100000 in
set_option maxHeartbeats 4000000 in
theorem ok_m10_piece {l : Launch} {V : Ev} {M M' : Mm} {r : Int32} {r0 : Nat} {a1 : Int32} {a2 : Int32} {a3 : Int32} {a4 : Int32} (h : s_m10_piece r0 a1 a2 a3 a4 M = some (r, M')) : Met l y_m10_piece (Cond.code y_m10_piece b_m10_piece 7 (some .int) :: TW) rm_m10_piece (va_Pc [rv V.1 r0, .int a1, .int a2, .int a3, .int a4] (Wd V M)) (QC V (some (.int r)) M' 0) 0 0 (Af V) := by
  refine met_of (fun x : Int32 => some (.int x)) (lv0 := [(0, rv V.1 r0), (1, .int a1), (2, .int a2), (3, .int a3), (4, .int a4)]) (by decide) (by simp [lg_sl, cat_rv, cat_i, cat_l, cat_f]) (by simp [lv_args, cat_rv, cat_i, cat_l, cat_f]) (fun C hl hR hC => ?_) h
  subst hl
  generalize mN M = n0 at hC ⊢
  unfold s_m10_piece
  refine Sm.aload_n hC d_m10_piece_0 rfl 0 rfl ?_
  refine Sm.iload_n hC d_m10_piece_1 rfl 1 rfl ?_
  refine Sm.iload_n hC d_m10_piece_2 rfl 2 rfl ?_
  refine Sm.iload_n hC d_m10_piece_3 rfl 3 rfl ?_
  refine Sm.iload hC d_m10_piece_4 4 rfl ?_
  refine Sm.callVi 10 (As := [.int a1, .int a2, .int a3, .int a4]) (st := []) hC hR cw_m10_refusalOfPiece (tw_i 422 (by decide +kernel)) (tw_i 424 (by decide +kernel)) (tw_i 1 (by decide +kernel)) ⟨_, rfl, rfl⟩ (fun r9 M9 h9 => ok_m10_refusalOfPiece h9) rfl rfl (RW.of ⟨rfl, rfl, by decide, by decide⟩) (by simp) d_m10_piece_6 (fun v1 M2 => ?_)
  refine Sm.istore (lv' := [(5, .int v1), (0, rv V.1 r0), (1, .int a1), (2, .int a2), (3, .int a3), (4, .int a4)]) hC d_m10_piece_9 (by decide) rfl ?_
  refine Sm.iload hC d_m10_piece_11 0 rfl ?_
  refine Sm.if_eq (tgt := 23) hC d_m10_piece_13 (by decide) ?_ ?_
  · refine Sm.aload_n hC d_m10_piece_23 rfl 1 rfl ?_
    refine Sm.getR hC fl_m10_17 rfl d_m10_piece_24 (fun v3 => ?_)
    refine Sm.aload_n hC d_m10_piece_27 rfl 1 rfl ?_
    refine Sm.getI hC fl_m10_92 rfl d_m10_piece_28 (fun v4 => ?_)
    refine Sm.aald (Cn := n_c3) hC ⟨by decide, by decide⟩ rfl d_m10_piece_31 (fun v5 => ?_)
    refine Sm.astore (lv' := [(6, rv V.1 v5), (5, .int v1), (0, rv V.1 r0), (1, .int a1), (2, .int a2), (3, .int a3), (4, .int a4)]) hC d_m10_piece_32 (by decide) rfl ?_
    refine Sm.aload hC d_m10_piece_34 0 rfl ?_
    refine Sm.iload_n hC d_m10_piece_36 rfl 3 rfl ?_
    refine Sm.bipush (v := 100) hC d_m10_piece_37 (by decide) ?_
    refine Sm.idiv hC d_m10_piece_39 ?_
    refine Sm.putI hC fl_m10_95 rfl d_m10_piece_40 (fun M6 => ?_)
    refine Sm.aload hC d_m10_piece_43 0 rfl ?_
    refine Sm.iload_n hC d_m10_piece_45 rfl 3 rfl ?_
    refine Sm.callSi (As := [.int a1]) (st := [rv V.1 v5]) hC hR cw_m10_storyOfPiece (tw_i 430 (by decide +kernel)) (tw_i 431 (by decide +kernel)) (fun r9 M9 h9 => ok_m10_storyOfPiece h9) rfl rfl (RW.of ⟨rfl, rfl, by decide, by decide⟩) (by simp) d_m10_piece_46 (fun v7 M8 => ?_)
    refine Sm.putI hC fl_m10_101 rfl d_m10_piece_49 (fun M9 => ?_)
    refine Sm.aload hC d_m10_piece_52 0 rfl ?_
    refine Sm.iload_n hC d_m10_piece_54 rfl 3 rfl ?_
    refine Sm.bipush (v := 10) hC d_m10_piece_55 (by decide) ?_
    refine Sm.irem hC d_m10_piece_57 ?_
    refine Sm.putI hC fl_m10_104 rfl d_m10_piece_58 (fun M10 => ?_)
    refine Sm.aload hC d_m10_piece_61 0 rfl ?_
    refine Sm.iload_n hC d_m10_piece_63 rfl 4 rfl ?_
    refine Sm.bipush (v := 100) hC d_m10_piece_64 (by decide) ?_
    refine Sm.idiv hC d_m10_piece_66 ?_
    refine Sm.putI hC fl_m10_107 rfl d_m10_piece_67 (fun M11 => ?_)
    refine Sm.aload hC d_m10_piece_70 0 rfl ?_
    refine Sm.aload hC d_m10_piece_72 0 rfl ?_
    refine Sm.getI hC fl_m10_95 rfl d_m10_piece_74 (fun v12 => ?_)
    refine Sm.iconst (v := 1) hC d_m10_piece_77 (by decide) ?_
    refine Sm.icmp_ne (tgt := 85) hC d_m10_piece_78 (by decide) ?_ ?_
    · refine Sm.iload_n hC d_m10_piece_85 rfl 5 rfl ?_
      refine Sm.sub [2, 4, 6, 0] rfl ?_
      exact w_m10_piece_86 hC hR r0 a2 a4 v5 v5 a3 M11
    · refine Sm.iconst (v := -1) hC d_m10_piece_81 (by decide) ?_
      refine Sm.goto (tgt := 86) hC d_m10_piece_82 (by decide) ?_
      refine Sm.sub [2, 4, 6, 0] rfl ?_
      exact w_m10_piece_86 hC hR r0 a2 a4 v5 v5 (-1 : Int32) M11
  · refine Sm.aload_n hC d_m10_piece_16 rfl 1 rfl ?_
    refine Sm.iload hC d_m10_piece_17 0 rfl ?_
    refine Sm.callVi 10 (As := [.int v1]) (st := []) hC hR cw_m10_refuse (tw_i 410 (by decide +kernel)) (tw_i 412 (by decide +kernel)) (tw_i 0 (by decide +kernel)) ⟨_, rfl, rfl⟩ (fun r9 M9 h9 => ok_m10_refuse h9) rfl rfl (RW.of ⟨rfl, rfl, by decide, by decide⟩) (by simp) d_m10_piece_19 (fun v13 M14 => ?_)
    exact Sm.iret hC d_m10_piece_22 rfl (Nat.sub_self _)
